theorem w_X6_cell_x {tS : jTS} (d : Nat) (V0 : jH) {t n : Nat} {f : Nat → Int32} (a : Nat) (x : Int32) (hA : V0 a = some (.inl (t, n, .inl f))) (hN : n < 2 ^ 31) (ht : jT[t]? = some .int) (h0 : 0 ≤ x.toInt) (h1 : x.toInt < (n : Int)) : jTot tS mX6_cell d [.ref a, .int x] V0 0 0 (fun r V => (∃ y : Int32, r = some (.int y) ∧ f x.toInt.toNat = y) ∧ V = V0) := by
  refine jTot.of_J [some (.ref a), some (.int x)] moX6_cell (Nat.le_of_ble_eq_true rfl) rfl ?_
  refine J_aload_n dX6_cell_0 rfl ?_
  refine J_ifnull dX6_cell_1 ?_
  refine J_iload_n dX6_cell_4 rfl ?_
  refine J_if_lt (tgt := 20) dX6_cell_5 (by decide) (fun c => absurd c (by rw [jlt, Int32.toInt_zero]; omega)) (fun _ => ?_)
  refine J_iload_n dX6_cell_8 rfl ?_
  refine J_aload_n dX6_cell_9 rfl ?_
  refine J_alen (v := Int32.ofNat n) dX6_cell_10 hA ht rfl ?_
  refine J_icmp_ge (tgt := 20) dX6_cell_11 (by decide) (fun c => absurd c (by rw [jle, jn_len hN]; omega)) (fun _ => ?_)
  refine J_aload_n dX6_cell_14 rfl ?_
  refine J_iload_n dX6_cell_15 rfl ?_
  refine J_iald dX6_cell_16 hA ht (vp_in_n h0 h1) ?_
  refine J_goto (tgt := 21) dX6_cell_17 (by decide) ?_
  exact J_ret (r := some (.int _)) dX6_cell_21 ⟨rfl, _, rfl, rfl⟩ ⟨⟨_, rfl, rfl⟩, rfl⟩
theorem w_X6_put_x {tS : jTS} (d : Nat) (V0 : jH) {f : Nat → Int32} (a : Nat) (x y : Int32) (hW : WT V0) (hA : V0 a = some (.inl (9, 7, .inl f))) (h0 : 0 ≤ x.toInt) (h1 : x.toInt < 7) (hy : ¬ y.toInt = -1) : jTot tS mX6_put d [.ref a, .int x, .int y] V0 0 0 (fun r V => r = none ∧ WT V ∧ jeff [.inl 9] V0 V ∧ jle9 V0 V ∧ ∃ G : Nat → Int32, V a = some (.inl (9, 7, .inl G)) ∧ G x.toInt.toNat = y ∧ ((f x.toInt.toNat).toInt = -1 → jcn (-1) G 7 = jcn (-1) f 7 + 1)) := by
  refine jTot.of_J [some (.ref a), some (.int x), some (.int y)] moX6_put (Nat.le_of_ble_eq_true rfl) rfl ?_
  refine J_aload_n dX6_put_0 rfl ?_
  refine J_ifnull dX6_put_1 ?_
  refine J_iload_n dX6_put_4 rfl ?_
  refine J_if_lt (tgt := 18) dX6_put_5 (by decide) (fun c => absurd c (by rw [jlt, Int32.toInt_zero]; omega)) (fun _ => ?_)
  refine J_iload_n dX6_put_8 rfl ?_
  refine J_aload_n dX6_put_9 rfl ?_
  refine J_alen (v := Int32.ofNat 7) dX6_put_10 hA rfl rfl ?_
  refine J_icmp_ge (tgt := 18) dX6_put_11 (by decide) (fun c => absurd c (by rw [jle, jn_len (by decide)]; omega)) (fun _ => ?_)
  refine J_aload_n dX6_put_14 rfl ?_
  refine J_iload_n dX6_put_15 rfl ?_
  refine J_iload_n dX6_put_16 rfl ?_
  refine J_iast dX6_put_17 hA rfl (vp_in_n h0 h1) ?_
  have hG : (upd f x.toNatClampNeg y) x.toInt.toNat = y := pk_us
  have hO : ∀ k, k ≠ x.toInt.toNat → upd f x.toNatClampNeg y k = f k := fun k hk => pk_un hk
  generalize upd f x.toNatClampNeg y = G at hG hO ⊢
  have hW0 := hW a _ id hA
  have hWn : WT (jup V0 a (.inl (9, 7, .inl G))) := hW.put hA jrel.arr (fun _ => ⟨hW0.1, hW0.2.1, G, rfl, fun j _ => j_rng _⟩)
  have hy2 : ¬ (G x.toInt.toNat).toInt = -1 := by rw [hG]; exact hy
  refine J_ret (r := none) dX6_put_18 ⟨rfl, rfl⟩ ⟨rfl, hWn, jeff.put hA jrel.arr List.mem_cons_self, fun b h q => ?_, G, jup_self, hG, fun hm => jcn_up hm hy2 hO 7 (by omega)⟩
  by_cases hb : b = a
  · subst hb
    cases q.symm.trans hA
    exact ⟨G, jup_self, jcn_ge hy2 hO 7⟩
  · exact ⟨h, (jup_ne hb).trans q, Nat.le_refl _⟩
theorem w_X6_cell_q {tS : jTS} (d : Nat) (V0 : jH) {t n : Nat} {f : Nat → Int32} (a : Nat) (x : Int32) (hA : V0 a = some (.inl (t, n, .inl f))) (hN : n < 2 ^ 31) (ht : jT[t]? = some .int) (h0 : 0 ≤ x.toInt) : jTot tS mX6_cell d [.ref a, .int x] V0 0 0 (fun r V => (∃ y : Int32, r = some (.int y) ∧ (x.toInt < (n : Int) → f x.toInt.toNat = y)) ∧ V = V0) := by
  refine jTot.of_J [some (.ref a), some (.int x)] moX6_cell (Nat.le_of_ble_eq_true rfl) rfl ?_
  refine J_aload_n dX6_cell_0 rfl ?_
  refine J_ifnull dX6_cell_1 ?_
  refine J_iload_n dX6_cell_4 rfl ?_
  refine J_if_lt (tgt := 20) dX6_cell_5 (by decide) (fun c => absurd c (by rw [jlt, Int32.toInt_zero]; omega)) (fun _ => ?_)
  refine J_iload_n dX6_cell_8 rfl ?_
  refine J_aload_n dX6_cell_9 rfl ?_
  refine J_alen (v := Int32.ofNat n) dX6_cell_10 hA ht rfl ?_
  refine J_icmp_ge (tgt := 20) dX6_cell_11 (by decide) (fun c => ?_) (fun c => ?_)
  · rw [jle, jn_len hN] at c
    refine J_iconst (v := 0) dX6_cell_20 (by decide) ?_
    exact J_ret (r := some (.int _)) dX6_cell_21 ⟨rfl, _, rfl, rfl⟩ ⟨⟨_, rfl, fun h => absurd h (by omega)⟩, rfl⟩
  · rw [jle, jn_len hN] at c
    refine J_aload_n dX6_cell_14 rfl ?_
    refine J_iload_n dX6_cell_15 rfl ?_
    refine J_iald dX6_cell_16 hA ht (vp_in_n h0 (by omega)) ?_
    refine J_goto (tgt := 21) dX6_cell_17 (by decide) ?_
    exact J_ret (r := some (.int _)) dX6_cell_21 ⟨rfl, _, rfl, rfl⟩ ⟨⟨_, rfl, fun _ => rfl⟩, rfl⟩
theorem w_X6_put_z {tS : jTS} {t n : Nat} (d : Nat) (V0 : jH) {f : Nat → Int32} (a : Nat) (x y : Int32) (hW : WT V0) (hA : V0 a = some (.inl (t, n, .inl f))) (hN : n < 2 ^ 31) (hc : jAc t = .inl (-2147483648, 2147483647)) (ht : jT[t]? = some .int) (h0 : 0 ≤ x.toInt) : jTot tS mX6_put d [.ref a, .int x, .int y] V0 0 0 (fun r V => r = none ∧ WT V ∧ jeff [.inl t] V0 V ∧ (∀ b : Nat, b ≠ a → V b = V0 b) ∧ ∃ G : Nat → Int32, V a = some (.inl (t, n, .inl G)) ∧ (x.toInt < (n : Int) → G x.toInt.toNat = y) ∧ ∀ k : Nat, k ≠ x.toInt.toNat → G k = f k) := by
  refine jTot.of_J [some (.ref a), some (.int x), some (.int y)] moX6_put (Nat.le_of_ble_eq_true rfl) rfl ?_
  refine J_aload_n dX6_put_0 rfl ?_
  refine J_ifnull dX6_put_1 ?_
  refine J_iload_n dX6_put_4 rfl ?_
  refine J_if_lt (tgt := 18) dX6_put_5 (by decide) (fun c => absurd c (by rw [jlt, Int32.toInt_zero]; omega)) (fun _ => ?_)
  refine J_iload_n dX6_put_8 rfl ?_
  refine J_aload_n dX6_put_9 rfl ?_
  refine J_alen (v := Int32.ofNat n) dX6_put_10 hA ht rfl ?_
  refine J_icmp_ge (tgt := 18) dX6_put_11 (by decide) (fun c => ?_) (fun c => ?_)
  · rw [jle, jn_len hN] at c
    exact J_ret (r := none) dX6_put_18 ⟨rfl, rfl⟩ ⟨rfl, hW, jeff.refl _ _, fun _ _ => rfl, f, hA, fun h => absurd h (by omega), fun _ _ => rfl⟩
  · rw [jle, jn_len hN] at c
    refine J_aload_n dX6_put_14 rfl ?_
    refine J_iload_n dX6_put_15 rfl ?_
    refine J_iload_n dX6_put_16 rfl ?_
    refine Jz_iastB (r := (-2147483648, 2147483647)) jEq.rf jEq.rf hW id dX6_put_17 hA ht hc h0 (by omega) (j_rng _).1 (j_rng _).2 (fun V' G hW' hx hA' hp ho hB => ?_)
    exact J_ret (r := none) dX6_put_18 ⟨rfl, rfl⟩ ⟨rfl, hW', hx, hB, G, hA', fun _ => hp, ho⟩
theorem w_X6_rowOf_in {tS : jTS} (d : Nat) (V0 : jH) (a0 : Nat) (x1 : Int32) {fs : List Value} {md : Nat} {k : Int32} {f : Nat → Option Nat} {ro : Nat} (hO : V0 a0 = some (.inr (4, fs))) (h0 : fs[0]? = some (.ref md)) (h1 : fs[1]? = some (.int k)) (hA : V0 md = some (.inl (4, 16, .inr (.inr (.inr (.inr f)))))) (hx0 : 0 ≤ x1.toInt) (hx1 : x1.toInt < k.toInt) (hx2 : x1.toInt < 16) (hf : f x1.toInt.toNat = some ro) : jTot tS mX6_rowOf d [.ref a0, .int x1] V0 0 0 (fun r V => r = some (.ref ro) ∧ V = V0) := by
  refine jTot.of_J [some (.ref a0), some (.int x1)] moX6_rowOf (Nat.le_of_ble_eq_true rfl) rfl ?_
  refine J_iload_n dX6_rowOf_0 rfl ?_
  refine J_if_lt (tgt := 30) dX6_rowOf_1 (by decide) (fun c => absurd c (by rw [jlt, Int32.toInt_zero]; omega)) (fun _ => ?_)
  refine J_iload_n dX6_rowOf_4 rfl ?_
  refine J_aload_n dX6_rowOf_5 rfl ?_
  refine J_get jf_X6_15 dX6_rowOf_6 hO h1 ?_
  refine J_icmp_ge (tgt := 30) dX6_rowOf_9 (by decide) (fun c => absurd c (by rw [jle]; omega)) (fun _ => ?_)
  refine J_iload_n dX6_rowOf_12 rfl ?_
  refine J_aload_n dX6_rowOf_13 rfl ?_
  refine J_get jf_X6_11 dX6_rowOf_14 hO h0 ?_
  refine J_alen (v := Int32.ofNat 16) dX6_rowOf_17 hA rfl rfl ?_
  refine J_icmp_ge (tgt := 30) dX6_rowOf_18 (by decide) (fun c => absurd c (by rw [jle, jn_len (by decide)]; omega)) (fun _ => ?_)
  refine J_aload_n dX6_rowOf_21 rfl ?_
  refine J_get jf_X6_11 dX6_rowOf_22 hO h0 ?_
  refine J_iload_n dX6_rowOf_25 rfl ?_
  refine J_aald dX6_rowOf_26 (t := 4) rfl hA (vp_in_n hx0 hx2) ?_
  rw [show f x1.toNatClampNeg = some ro from hf, show va_rf (some ro) = Value.ref ro from rfl]
  refine J_goto (tgt := 31) dX6_rowOf_27 (by decide) ?_
  exact J_ret (r := some (.ref _)) dX6_rowOf_31 ⟨rfl, _, rfl, Or.inl ⟨_, rfl⟩⟩ ⟨rfl, rfl⟩
theorem w_X6_rowOf_out {tS : jTS} (d : Nat) (V0 : jH) (a0 : Nat) (x1 : Int32) {fs : List Value} {k : Int32} (hO : V0 a0 = some (.inr (4, fs))) (h1 : fs[1]? = some (.int k)) (hx : ¬ (0 ≤ x1.toInt ∧ x1.toInt < k.toInt)) : jTot tS mX6_rowOf d [.ref a0, .int x1] V0 0 0 (fun r V => r = some .null ∧ V = V0) := by
  refine jTot.of_J [some (.ref a0), some (.int x1)] moX6_rowOf (Nat.le_of_ble_eq_true rfl) rfl ?_
  refine J_iload_n dX6_rowOf_0 rfl ?_
  refine J_if_lt (tgt := 30) dX6_rowOf_1 (by decide) (fun c => ?_) (fun c => ?_)
  · refine J_null dX6_rowOf_30 ?_
    exact J_ret (r := some .null) dX6_rowOf_31 ⟨rfl, _, rfl, Or.inl ⟨_, rfl⟩⟩ ⟨rfl, rfl⟩
  · rw [jlt, Int32.toInt_zero] at c
    refine J_iload_n dX6_rowOf_4 rfl ?_
    refine J_aload_n dX6_rowOf_5 rfl ?_
    refine J_get jf_X6_15 dX6_rowOf_6 hO h1 ?_
    refine J_icmp_ge (tgt := 30) dX6_rowOf_9 (by decide) (fun c => ?_) (fun c2 => absurd c2 (fun q => q (by rw [jle]; omega)))
    refine J_null dX6_rowOf_30 ?_
    exact J_ret (r := some .null) dX6_rowOf_31 ⟨rfl, _, rfl, Or.inl ⟨_, rfl⟩⟩ ⟨rfl, rfl⟩
set_option maxRecDepth 100000 in
set_option maxHeartbeats 4000000 in
theorem w_J13_bitCount_95d88_z {tS : jTS} (d : Nat) (V0 : jH) (x0 : Int64)  (hd : 0 ≤ d)    : jTot tS mJ13_bitCount_95d88 d [.long x0] V0 0 0 (fun r V => (fun r _ => ∃ y : Int32, r = some (.int y) ∧ ((-2147483648) ≤ y.toInt) ∧ (y.toInt ≤ 2147483647) ∧ (y.toInt = ((jsum (fun n => (jbt x0 n).toNat) 64 : Nat) : Int))) r V ∧ V = V0) := by
  refine jTot.of_J [some (.long x0), none] moJ13_bitCount_95d88 (Nat.le_of_ble_eq_true rfl) rfl ?_
  refine J_lload_n dJ13_bitCount_95d88_0 rfl ?_
  refine J_lload_n dJ13_bitCount_95d88_1 rfl ?_
  refine J_iconst (v := 1) dJ13_bitCount_95d88_2 (by decide) ?_
  refine J_lushr dJ13_bitCount_95d88_3 rfl ?_
  refine J_ldc2 jw_k_J13_314 dJ13_bitCount_95d88_4 ?_
  refine J_land dJ13_bitCount_95d88_7 ?_
  refine J_lsub dJ13_bitCount_95d88_8 ?_
  refine J_lstore_n dJ13_bitCount_95d88_9 rfl (by decide) ?_
  refine J_lload_n dJ13_bitCount_95d88_10 rfl ?_
  refine J_ldc2 jw_k_J13_316 dJ13_bitCount_95d88_11 ?_
  refine J_land dJ13_bitCount_95d88_14 ?_
  refine J_lload_n dJ13_bitCount_95d88_15 rfl ?_
  refine J_iconst (v := 2) dJ13_bitCount_95d88_16 (by decide) ?_
  refine J_lushr dJ13_bitCount_95d88_17 rfl ?_
  refine J_ldc2 jw_k_J13_316 dJ13_bitCount_95d88_18 ?_
  refine J_land dJ13_bitCount_95d88_21 ?_
  refine J_ladd dJ13_bitCount_95d88_22 ?_
  refine J_lstore_n dJ13_bitCount_95d88_23 rfl (by decide) ?_
  refine J_lload_n dJ13_bitCount_95d88_24 rfl ?_
  refine J_lload_n dJ13_bitCount_95d88_25 rfl ?_
  refine J_iconst (v := 4) dJ13_bitCount_95d88_26 (by decide) ?_
  refine J_lushr dJ13_bitCount_95d88_27 rfl ?_
  refine J_ladd dJ13_bitCount_95d88_28 ?_
  refine J_ldc2 jw_k_J13_318 dJ13_bitCount_95d88_29 ?_
  refine J_land dJ13_bitCount_95d88_32 ?_
  refine J_lstore_n dJ13_bitCount_95d88_33 rfl (by decide) ?_
  refine J_lload_n dJ13_bitCount_95d88_34 rfl ?_
  refine J_lload_n dJ13_bitCount_95d88_35 rfl ?_
  refine J_bipush (v := 8) dJ13_bitCount_95d88_36 (by decide) ?_
  refine J_lushr dJ13_bitCount_95d88_38 rfl ?_
  refine J_ladd dJ13_bitCount_95d88_39 ?_
  refine J_lstore_n dJ13_bitCount_95d88_40 rfl (by decide) ?_
  refine J_lload_n dJ13_bitCount_95d88_41 rfl ?_
  refine J_lload_n dJ13_bitCount_95d88_42 rfl ?_
  refine J_bipush (v := 16) dJ13_bitCount_95d88_43 (by decide) ?_
  refine J_lushr dJ13_bitCount_95d88_45 rfl ?_
  refine J_ladd dJ13_bitCount_95d88_46 ?_
  refine J_lstore_n dJ13_bitCount_95d88_47 rfl (by decide) ?_
  refine J_lload_n dJ13_bitCount_95d88_48 rfl ?_
  refine J_lload_n dJ13_bitCount_95d88_49 rfl ?_
  refine J_bipush (v := 32) dJ13_bitCount_95d88_50 (by decide) ?_
  refine J_lushr dJ13_bitCount_95d88_52 rfl ?_
  refine J_ladd dJ13_bitCount_95d88_53 ?_
  refine J_lstore_n dJ13_bitCount_95d88_54 rfl (by decide) ?_
  refine J_lload_n dJ13_bitCount_95d88_55 rfl ?_
  refine J_l2i dJ13_bitCount_95d88_56 rfl ?_
  refine J_bipush (v := 127) dJ13_bitCount_95d88_57 (by decide) ?_
  refine J_iand dJ13_bitCount_95d88_59 ?_
  exact J_ret (r := some (.int _)) dJ13_bitCount_95d88_60 ⟨rfl, _, rfl, rfl⟩ (⟨⟨_, rfl, (j_rng _).1, (j_rng _).2, jbc x0⟩, rfl⟩)
set_option maxRecDepth 100000 in
set_option maxHeartbeats 8000000 in
theorem w_X3_begin_rk {tS : jTS} (d : Nat) (V0 : jH) {l1 l2 l3 l4 : Nat} (a0 : Nat) (x1 : Int32) (M : Int32) (n : Int32) (s : Nat) (xx : Nat) (yy : Nat) (zz : Nat) (S : Nat → Int32) (X : Nat → Int32) (Y : Nat → Int32) (Z : Nat → Int32) (hd : 0 ≤ d) (hW : WT V0) (ha0 : jis V0 (.inr 1) a0) (hf_M : jfI V0 a0 1 0 M) (hf_n : jfI V0 a0 1 6 n) (hr_s : jfR V0 a0 1 1 s) (hr_xx : jfR V0 a0 1 2 xx) (hr_yy : jfR V0 a0 1 3 yy) (hr_zz : jfR V0 a0 1 4 zz) (ha_S : V0 s = some (.inl (6, l1, .inl S))) (ha_X : V0 xx = some (.inl (34, l2, .inl X))) (ha_Y : V0 yy = some (.inl (35, l3, .inl Y))) (ha_Z : V0 zz = some (.inl (36, l4, .inl Z))) : jTot tS mX3_begin d [.ref a0, .int x1] V0 0 0 (fun r V => (jPost [.inr 1] V0 rV) r V ∧ jrk a0 V0 V) := by
  refine jTot.of_J [some (.ref a0), some (.int x1)] moX3_begin (Nat.le_of_ble_eq_true rfl) rfl ?_
  have hrx1 := j_rng x1
  have he : jeff [.inr 1] V0 V0 := jeff.refl _ _
  have hfp : jfp [a0, s, xx, yy, zz] V0 V0 := jfp.rf
  obtain ⟨fs_a0, hO_a0, hK_a0⟩ := WT_obj hW id ha0
  have hF_M := hf_M.get hO_a0
  have hrM : 0 ≤ M.toInt ∧ M.toInt ≤ 120 := jok_rngI hK_a0 rfl hF_M
  have hF_n := hf_n.get hO_a0
  have hrn : 0 ≤ n.toInt ∧ n.toInt ≤ 120 := jok_rngI hK_a0 rfl hF_n
  have hF_s := hr_s.get hO_a0
  obtain ⟨w_s, hFq_s, b_s, hbq_s, hb_s⟩ := hK_a0.2 1 (.inr (some (.inl 6))) rfl
  cases hF_s.symm.trans (hFq_s.trans (congrArg some hbq_s))
  have hF_xx := hr_xx.get hO_a0
  obtain ⟨w_xx, hFq_xx, b_xx, hbq_xx, hb_xx⟩ := hK_a0.2 2 (.inr (some (.inl 34))) rfl
  cases hF_xx.symm.trans (hFq_xx.trans (congrArg some hbq_xx))
  have hF_yy := hr_yy.get hO_a0
  obtain ⟨w_yy, hFq_yy, b_yy, hbq_yy, hb_yy⟩ := hK_a0.2 3 (.inr (some (.inl 35))) rfl
  cases hF_yy.symm.trans (hFq_yy.trans (congrArg some hbq_yy))
  have hF_zz := hr_zz.get hO_a0
  obtain ⟨w_zz, hFq_zz, b_zz, hbq_zz, hb_zz⟩ := hK_a0.2 4 (.inr (some (.inl 36))) rfl
  cases hF_zz.symm.trans (hFq_zz.trans (congrArg some hbq_zz))
  obtain ⟨hN_S, hv_S⟩ := WT_rngI (r := ((-2147483648), 2147483647)) hW id rfl ha_S
  clear hN_S
  obtain ⟨hN_X, hv_X⟩ := WT_rngI (r := ((-2147483648), 2147483647)) hW id rfl ha_X
  clear hN_X
  obtain ⟨hN_Y, hv_Y⟩ := WT_rngI (r := ((-2147483648), 2147483647)) hW id rfl ha_Y
  clear hN_Y
  obtain ⟨hN_Z, hv_Z⟩ := WT_rngI (r := ((-2147483648), 2147483647)) hW id rfl ha_Z
  clear hN_Z
  have ha0_S := ha_S
  have ha0_X := ha_X
  have ha0_Y := ha_Y
  have ha0_Z := ha_Z
  refine J_aload_n dX3_begin_0 rfl ?_
  refine J_iload_n dX3_begin_1 rfl ?_
  refine Jz_putI hO_a0 hW id rfl jf_X3_9 jt_X3_5 jEq.rf dX3_begin_2 (j_rng _).1 (j_rng _).2 (fun _ _ => ⟨rfl, rfl⟩) (fun V2 fs2 hW hx2 hO2 hS2 hT2 hB2 => ?_)
  have hK2 : jokO _ (jFs 1) fs2 := hW _ _ id hO2
  have hF2_0 := (hT2 0 (by decide)).trans hF_M
  have hF2_6 := (hT2 6 (by decide)).trans hF_n
  have hF2_1 := (hT2 1 (by decide)).trans hF_s
  have hF2_2 := (hT2 2 (by decide)).trans hF_xx
  have hF2_3 := (hT2 3 (by decide)).trans hF_yy
  have hF2_4 := (hT2 4 (by decide)).trans hF_zz
  have he := he.trans (hx2.sub (jsub_of rfl))
  have hfp := hfp.trans (jfp.one hB2 List.mem_cons_self)
  have ha0 := ha0.mono hx2.1
  have hb_s := hb_s.mono hx2.1
  have hb_xx := hb_xx.mono hx2.1
  have hb_yy := hb_yy.mono hx2.1
  have hb_zz := hb_zz.mono hx2.1
  have ha_S := hx2.2 _ _ ha_S (jnot_of rfl)
  have ha_X := hx2.2 _ _ ha_X (jnot_of rfl)
  have ha_Y := hx2.2 _ _ ha_Y (jnot_of rfl)
  have ha_Z := hx2.2 _ _ ha_Z (jnot_of rfl)
  refine J_aload_n dX3_begin_5 rfl ?_
  refine Jz_iconst 0 dX3_begin_6 (by decide) (fun y6 he6 => ?_)
  refine Jz_putI hO2 hW id rfl jf_X3_15 jt_X3_6 he6 dX3_begin_7 (by omega) (by omega) (fun _ _ => ⟨rfl, rfl⟩) (fun V7 fs7 hW hx7 hO7 hS7 hT7 hB7 => ?_)
  have hK7 : jokO _ (jFs 1) fs7 := hW _ _ id hO7
  have hF7_5 := (hT7 5 (by decide)).trans hS2
  have hF7_0 := (hT7 0 (by decide)).trans hF2_0
  have hF7_1 := (hT7 1 (by decide)).trans hF2_1
  have hF7_2 := (hT7 2 (by decide)).trans hF2_2
  have hF7_3 := (hT7 3 (by decide)).trans hF2_3
  have hF7_4 := (hT7 4 (by decide)).trans hF2_4
  have he := he.trans (hx7.sub (jsub_of rfl))
  have hfp := hfp.trans (jfp.one hB7 List.mem_cons_self)
  have ha0 := ha0.mono hx7.1
  have hb_s := hb_s.mono hx7.1
  have hb_xx := hb_xx.mono hx7.1
  have hb_yy := hb_yy.mono hx7.1
  have hb_zz := hb_zz.mono hx7.1
  have ha_S := hx7.2 _ _ ha_S (jnot_of rfl)
  have ha_X := hx7.2 _ _ ha_X (jnot_of rfl)
  have ha_Y := hx7.2 _ _ ha_Y (jnot_of rfl)
  have ha_Z := hx7.2 _ _ ha_Z (jnot_of rfl)
  exact J_ret (r := none) dX3_begin_10 ⟨rfl, rfl⟩ (⟨⟨hW, he, rfl⟩, (jrk.mk hr_s hr_xx hr_yy hr_zz hfp hf_M ⟨_, hO7, hF7_0⟩ (jk1.mk ha0_S ha_S) (jk0.mk ha0_X ha_X rfl) (jk0.mk ha0_Y ha_Y rfl) (jk0.mk ha0_Z ha_Z rfl))⟩)
theorem w_X3_begin_rk0 {tS : jTS} (d : Nat) (V0 : jH) (a0 : Nat) (x1 : Int32) (hd : 5 ≤ d) (hW : WT V0) (ha0 : jis V0 (.inr 1) a0)  : jTot tS mX3_begin d [.ref a0, .int x1] V0 0 0 (fun r V => (jPost [.inr 1] V0 rV) r V ∧ jrk a0 V0 V) := by
  obtain ⟨M, n, s, x, y, z, l1, l2, l3, l4, S, X, Y, Z, h0, h6, h1, h2, h3, h4, g1, g2, g3, g4⟩ := WT_row hW ha0
  exact w_X3_begin_rk d V0 a0 x1 M n s x y z S X Y Z (by omega) hW ha0 h0 h6 h1 h2 h3 h4 g1 g2 g3 g4 
set_option maxRecDepth 100000 in
set_option maxHeartbeats 8000000 in
theorem w_X3_drop_rk {tS : jTS} (d : Nat) (V0 : jH) {l1 l2 l3 l4 : Nat} (a0 : Nat) (x1 : Int32) (M : Int32) (n : Int32) (s : Nat) (xx : Nat) (yy : Nat) (zz : Nat) (S : Nat → Int32) (X : Nat → Int32) (Y : Nat → Int32) (Z : Nat → Int32) (hd : 1 ≤ d) (hW : WT V0) (ha0 : jis V0 (.inr 1) a0) (hf_M : jfI V0 a0 1 0 M) (hf_n : jfI V0 a0 1 6 n) (hr_s : jfR V0 a0 1 1 s) (hr_xx : jfR V0 a0 1 2 xx) (hr_yy : jfR V0 a0 1 3 yy) (hr_zz : jfR V0 a0 1 4 zz) (ha_S : V0 s = some (.inl (6, l1, .inl S))) (ha_X : V0 xx = some (.inl (34, l2, .inl X))) (ha_Y : V0 yy = some (.inl (35, l3, .inl Y))) (ha_Z : V0 zz = some (.inl (36, l4, .inl Z))) (hp0 : x1.toInt = 1) : jTot tS mX3_drop d [.ref a0, .int x1] V0 0 0 (fun r V => (jPost [.inr 1] V0 rV) r V ∧ jrk a0 V0 V) := by
  refine jTot.of_J [some (.ref a0), some (.int x1)] moX3_drop (Nat.le_of_ble_eq_true rfl) rfl ?_
  have hrx1 := j_rng x1
  have he : jeff [.inr 1] V0 V0 := jeff.refl _ _
  have hfp : jfp [a0, s, xx, yy, zz] V0 V0 := jfp.rf
  obtain ⟨fs_a0, hO_a0, hK_a0⟩ := WT_obj hW id ha0
  have hF_M := hf_M.get hO_a0
  have hrM : 0 ≤ M.toInt ∧ M.toInt ≤ 120 := jok_rngI hK_a0 rfl hF_M
  have hF_n := hf_n.get hO_a0
  have hrn : 0 ≤ n.toInt ∧ n.toInt ≤ 120 := jok_rngI hK_a0 rfl hF_n
  have hF_s := hr_s.get hO_a0
  obtain ⟨w_s, hFq_s, b_s, hbq_s, hb_s⟩ := hK_a0.2 1 (.inr (some (.inl 6))) rfl
  cases hF_s.symm.trans (hFq_s.trans (congrArg some hbq_s))
  have hF_xx := hr_xx.get hO_a0
  obtain ⟨w_xx, hFq_xx, b_xx, hbq_xx, hb_xx⟩ := hK_a0.2 2 (.inr (some (.inl 34))) rfl
  cases hF_xx.symm.trans (hFq_xx.trans (congrArg some hbq_xx))
  have hF_yy := hr_yy.get hO_a0
  obtain ⟨w_yy, hFq_yy, b_yy, hbq_yy, hb_yy⟩ := hK_a0.2 3 (.inr (some (.inl 35))) rfl
  cases hF_yy.symm.trans (hFq_yy.trans (congrArg some hbq_yy))
  have hF_zz := hr_zz.get hO_a0
  obtain ⟨w_zz, hFq_zz, b_zz, hbq_zz, hb_zz⟩ := hK_a0.2 4 (.inr (some (.inl 36))) rfl
  cases hF_zz.symm.trans (hFq_zz.trans (congrArg some hbq_zz))
  obtain ⟨hN_S, hv_S⟩ := WT_rngI (r := ((-2147483648), 2147483647)) hW id rfl ha_S
  clear hN_S
  obtain ⟨hN_X, hv_X⟩ := WT_rngI (r := ((-2147483648), 2147483647)) hW id rfl ha_X
  clear hN_X
  obtain ⟨hN_Y, hv_Y⟩ := WT_rngI (r := ((-2147483648), 2147483647)) hW id rfl ha_Y
  clear hN_Y
  obtain ⟨hN_Z, hv_Z⟩ := WT_rngI (r := ((-2147483648), 2147483647)) hW id rfl ha_Z
  clear hN_Z
  have ha0_S := ha_S
  have ha0_X := ha_X
  have ha0_Y := ha_Y
  have ha0_Z := ha_Z
  refine J_aload_n dX3_drop_0 rfl ?_
  refine Jz_iconst 0 dX3_drop_1 (by decide) (fun y1 he1 => ?_)
  refine J_aload_n dX3_drop_2 rfl ?_
  refine J_get jf_X3_15 dX3_drop_3 hO_a0 hF_n ?_
  refine Jz_iconst 0 dX3_drop_6 (by decide) (fun y6 he6 => ?_)
  refine J_iload_n dX3_drop_7 rfl ?_
  refine J_mmax jw_ml_X3_24 dX3_drop_8 (by omega) (Nat.le_of_ble_eq_true rfl) ?_
  have hz8 : jEq (if y6 < x1 then x1 else y6).toInt (1) := by have q := jmaxi (x := y6) (y := x1) he6 jEq.rf; exact (show (if y6 < x1 then x1 else y6).toInt = 1 by omega)
  generalize (if y6 < x1 then x1 else y6) = y8 at hz8 ⊢
  refine Jz_isub jEq.rf hz8 dX3_drop_11 (by omega) (by omega) (fun y11 he11 => ?_)
  refine J_mmax jw_ml_X3_24 dX3_drop_12 (by omega) (Nat.le_of_ble_eq_true rfl) ?_
  have hz12 : jEq (if y1 < y11 then y11 else y1).toInt (if 1 ≤ n.toInt then n.toInt - 1 else 0) := by have q := jmaxi (x := y1) (y := y11) he1 he11; exact (show (if y1 < y11 then y11 else y1).toInt = if 1 ≤ n.toInt then n.toInt - 1 else 0 by omega)
  generalize (if y1 < y11 then y11 else y1) = y12 at hz12 ⊢
  refine Jz_putI hO_a0 hW id rfl jf_X3_15 jt_X3_6 hz12 dX3_drop_15 (by omega) (by omega) (fun _ _ => ⟨rfl, rfl⟩) (fun V15 fs15 hW hx15 hO15 hS15 hT15 hB15 => ?_)
  have hK15 : jokO _ (jFs 1) fs15 := hW _ _ id hO15
  have hF15_0 := (hT15 0 (by decide)).trans hF_M
  have hF15_1 := (hT15 1 (by decide)).trans hF_s
  have hF15_2 := (hT15 2 (by decide)).trans hF_xx
  have hF15_3 := (hT15 3 (by decide)).trans hF_yy
  have hF15_4 := (hT15 4 (by decide)).trans hF_zz
  have he := he.trans (hx15.sub (jsub_of rfl))
  have hfp := hfp.trans (jfp.one hB15 List.mem_cons_self)
  have ha0 := ha0.mono hx15.1
  have hb_s := hb_s.mono hx15.1
  have hb_xx := hb_xx.mono hx15.1
  have hb_yy := hb_yy.mono hx15.1
  have hb_zz := hb_zz.mono hx15.1
  have ha_S := hx15.2 _ _ ha_S (jnot_of rfl)
  have ha_X := hx15.2 _ _ ha_X (jnot_of rfl)
  have ha_Y := hx15.2 _ _ ha_Y (jnot_of rfl)
  have ha_Z := hx15.2 _ _ ha_Z (jnot_of rfl)
  exact J_ret (r := none) dX3_drop_18 ⟨rfl, rfl⟩ (⟨⟨hW, he, rfl⟩, (jrk.mk hr_s hr_xx hr_yy hr_zz hfp hf_M ⟨_, hO15, hF15_0⟩ (jk1.mk ha0_S ha_S) (jk0.mk ha0_X ha_X rfl) (jk0.mk ha0_Y ha_Y rfl) (jk0.mk ha0_Z ha_Z rfl))⟩)
theorem w_X3_drop_rk0 {tS : jTS} (d : Nat) (V0 : jH) (a0 : Nat) (x1 : Int32) (hd : 5 ≤ d) (hW : WT V0) (ha0 : jis V0 (.inr 1) a0) (hq0 : x1.toInt = 1) : jTot tS mX3_drop d [.ref a0, .int x1] V0 0 0 (fun r V => (jPost [.inr 1] V0 rV) r V ∧ jrk a0 V0 V) := by
  obtain ⟨M, n, s, x, y, z, l1, l2, l3, l4, S, X, Y, Z, h0, h6, h1, h2, h3, h4, g1, g2, g3, g4⟩ := WT_row hW ha0
  exact w_X3_drop_rk d V0 a0 x1 M n s x y z S X Y Z (by omega) hW ha0 h0 h6 h1 h2 h3 h4 g1 g2 g3 g4 hq0
set_option maxRecDepth 100000 in
set_option maxHeartbeats 8000000 in
theorem w_X3_lay_rk {tS : jTS} (d : Nat) (V0 : jH) {l1 l2 l3 l4 : Nat} (a0 : Nat) (x1 : Int32) (M : Int32) (n : Int32) (s : Nat) (xx : Nat) (yy : Nat) (zz : Nat) (S : Nat → Int32) (X : Nat → Int32) (Y : Nat → Int32) (Z : Nat → Int32) (hd : 3 ≤ d) (hW : WT V0) (ha0 : jis V0 (.inr 1) a0) (hf_M : jfI V0 a0 1 0 M) (hf_n : jfI V0 a0 1 6 n) (hr_s : jfR V0 a0 1 1 s) (hr_xx : jfR V0 a0 1 2 xx) (hr_yy : jfR V0 a0 1 3 yy) (hr_zz : jfR V0 a0 1 4 zz) (ha_S : V0 s = some (.inl (6, l1, .inl S))) (ha_X : V0 xx = some (.inl (34, l2, .inl X))) (ha_Y : V0 yy = some (.inl (35, l3, .inl Y))) (ha_Z : V0 zz = some (.inl (36, l4, .inl Z))) : jTot tS mX3_lay d [.ref a0, .int x1] V0 0 0 (fun r V => (jPost [.inr 1, .inl 6, .inl 34, .inl 35, .inl 36] V0 (fun r _ => ∃ y : Int32, r = some (.int y) ∧ (0 ≤ y.toInt) ∧ (y.toInt ≤ 1))) r V ∧ jrk a0 V0 V) := by
  refine jTot.of_J [some (.ref a0), some (.int x1), none, none, none] moX3_lay (Nat.le_of_ble_eq_true rfl) rfl ?_
  have hrx1 := j_rng x1
  have he : jeff [.inr 1, .inl 6, .inl 34, .inl 35, .inl 36] V0 V0 := jeff.refl _ _
  have hfp : jfp [a0, s, xx, yy, zz] V0 V0 := jfp.rf
  obtain ⟨fs_a0, hO_a0, hK_a0⟩ := WT_obj hW id ha0
  have hF_M := hf_M.get hO_a0
  have hrM : 0 ≤ M.toInt ∧ M.toInt ≤ 120 := jok_rngI hK_a0 rfl hF_M
  have hF_n := hf_n.get hO_a0
  have hrn : 0 ≤ n.toInt ∧ n.toInt ≤ 120 := jok_rngI hK_a0 rfl hF_n
  have hF_s := hr_s.get hO_a0
  obtain ⟨w_s, hFq_s, b_s, hbq_s, hb_s⟩ := hK_a0.2 1 (.inr (some (.inl 6))) rfl
  cases hF_s.symm.trans (hFq_s.trans (congrArg some hbq_s))
  have hF_xx := hr_xx.get hO_a0
  obtain ⟨w_xx, hFq_xx, b_xx, hbq_xx, hb_xx⟩ := hK_a0.2 2 (.inr (some (.inl 34))) rfl
  cases hF_xx.symm.trans (hFq_xx.trans (congrArg some hbq_xx))
  have hF_yy := hr_yy.get hO_a0
  obtain ⟨w_yy, hFq_yy, b_yy, hbq_yy, hb_yy⟩ := hK_a0.2 3 (.inr (some (.inl 35))) rfl
  cases hF_yy.symm.trans (hFq_yy.trans (congrArg some hbq_yy))
  have hF_zz := hr_zz.get hO_a0
  obtain ⟨w_zz, hFq_zz, b_zz, hbq_zz, hb_zz⟩ := hK_a0.2 4 (.inr (some (.inl 36))) rfl
  cases hF_zz.symm.trans (hFq_zz.trans (congrArg some hbq_zz))
  obtain ⟨hN_S, hv_S⟩ := WT_rngI (r := ((-2147483648), 2147483647)) hW id rfl ha_S
  clear hN_S
  obtain ⟨hN_X, hv_X⟩ := WT_rngI (r := ((-2147483648), 2147483647)) hW id rfl ha_X
  clear hN_X
  obtain ⟨hN_Y, hv_Y⟩ := WT_rngI (r := ((-2147483648), 2147483647)) hW id rfl ha_Y
  clear hN_Y
  obtain ⟨hN_Z, hv_Z⟩ := WT_rngI (r := ((-2147483648), 2147483647)) hW id rfl ha_Z
  clear hN_Z
  have ha0_S := ha_S
  have ha0_X := ha_X
  have ha0_Y := ha_Y
  have ha0_Z := ha_Z
  refine J_aload_n dX3_lay_0 rfl ?_
  refine J_get jf_X3_15 dX3_lay_1 hO_a0 hF_n ?_
  refine J_aload_n dX3_lay_4 rfl ?_
  refine J_get jf_X3_27 dX3_lay_5 hO_a0 hF_M ?_
  refine Jz_icmp_ge (tgt := 19) jEq.rf jEq.rf dX3_lay_8 (by decide) (fun c8 => ?_) (fun c8 => ?_)
  · refine Jz_iconst 0 dX3_lay_19 (by decide) (fun y19 he19 => ?_)
    exact J_ret (r := some (.int _)) dX3_lay_20 ⟨rfl, _, rfl, (nar_b (by (try simp only [he19.eq, true_and, and_true]) <;> omega) (by (try simp only [he19.eq, true_and, and_true]) <;> omega))⟩ (⟨⟨hW, he, ⟨_, rfl, (by (try simp only [he19.eq, true_and, and_true]) <;> omega), (by (try simp only [he19.eq, true_and, and_true]) <;> omega)⟩⟩, jrk.rf⟩)
  · refine J_aload_n dX3_lay_11 rfl ?_
    refine J_iload_n dX3_lay_12 rfl ?_
    refine Jw_callV1 (q9 := (RX3, TX3, 7)) moX3_leads jw_ml_X3_73 jw_im_X3_leads jw_se_X3_leads ha0 rfl rfl dX3_lay_13 (w_X3_leads (d - 1) _ a0 x1 (by omega) hW ha0) (by omega) (Nat.zero_le _) (Nat.zero_le _) (Nat.le_of_ble_eq_true rfl) (fun r13 V13 h13 => ?_)
    obtain ⟨⟨y13, rfl, hl13, hh13⟩, hE13⟩ := h13
    have hE13 := hE13.symm
    subst hE13
    refine Jz_if_ne (tgt := 21) jEq.rf dX3_lay_16 (by decide) (fun c16 => ?_) (fun c16 => ?_)
    · refine J_aload_n dX3_lay_21 rfl ?_
      refine Jw_callV0 (q9 := (RX3, TX3, 7)) moX3_endX jw_ml_X3_47 jw_im_X3_endX jw_se_X3_endX ha0 rfl rfl dX3_lay_22 (w_X3_endX (d - 1) _ a0 (by omega) hW ha0) (by omega) (Nat.zero_le _) (Nat.zero_le _) (Nat.le_of_ble_eq_true rfl) (fun r22 V22 h22 => ?_)
      obtain ⟨⟨y22, rfl, hl22, hh22⟩, hE22⟩ := h22
      have hE22 := hE22.symm
      subst hE22
      clear hl22 hh22
      refine J_aload_n dX3_lay_25 rfl ?_
      obtain ⟨w26, hF26, y26, rfl, hl26, hh26⟩ := hK_a0.2 5 (.inl ((-2147483648), 2147483647)) rfl
      dsimp only at hl26 hh26
      refine J_get jf_X3_9 dX3_lay_26 hO_a0 hF26 ?_
      refine J_iload_n dX3_lay_29 rfl ?_
      refine J_callS2 moX0_shiftX jw_ml_X3_51 jw_st_X0_shiftX dX3_lay_30 (w_X0_shiftX (d - 1) _ y26 x1 (by omega)  ) (by omega) (Nat.zero_le _) (Nat.zero_le _) (Nat.le_of_ble_eq_true rfl) (fun r30 V30 h30 => ?_)
      obtain ⟨⟨y30, rfl, hl30, hh30⟩, hE30⟩ := h30
      have hE30 := hE30.symm
      subst hE30
      clear hl30 hh30
      refine Jz_iaddw dX3_lay_33 (fun y33  => ?_)
      refine J_istore_n dX3_lay_34 rfl (by decide) ?_
      refine J_aload_n dX3_lay_35 rfl ?_
      refine Jw_callV0 (q9 := (RX3, TX3, 7)) moX3_endY jw_ml_X3_56 jw_im_X3_endY jw_se_X3_endY ha0 rfl rfl dX3_lay_36 (w_X3_endY (d - 1) _ a0 (by omega) hW ha0) (by omega) (Nat.zero_le _) (Nat.zero_le _) (Nat.le_of_ble_eq_true rfl) (fun r36 V36 h36 => ?_)
      obtain ⟨⟨y36, rfl, hl36, hh36⟩, hE36⟩ := h36
      have hE36 := hE36.symm
      subst hE36
      clear hl36 hh36
      refine J_aload_n dX3_lay_39 rfl ?_
      refine J_get jf_X3_9 dX3_lay_40 hO_a0 hF26 ?_
      refine J_iload_n dX3_lay_43 rfl ?_
      refine J_aload_n dX3_lay_44 rfl ?_
      refine Jw_callV0 (q9 := (RX3, TX3, 7)) moX3_endX jw_ml_X3_47 jw_im_X3_endX jw_se_X3_endX ha0 rfl rfl dX3_lay_45 (w_X3_endX (d - 1) _ a0 (by omega) hW ha0) (by omega) (Nat.zero_le _) (Nat.zero_le _) (Nat.le_of_ble_eq_true rfl) (fun r45 V45 h45 => ?_)
      obtain ⟨⟨y45, rfl, hl45, hh45⟩, hE45⟩ := h45
      have hE45 := hE45.symm
      subst hE45
      clear hl45 hh45
      refine J_aload_n dX3_lay_48 rfl ?_
      refine Jw_callV0 (q9 := (RX3, TX3, 7)) moX3_endY jw_ml_X3_56 jw_im_X3_endY jw_se_X3_endY ha0 rfl rfl dX3_lay_49 (w_X3_endY (d - 1) _ a0 (by omega) hW ha0) (by omega) (Nat.zero_le _) (Nat.zero_le _) (Nat.le_of_ble_eq_true rfl) (fun r49 V49 h49 => ?_)
      obtain ⟨⟨y49, rfl, hl49, hh49⟩, hE49⟩ := h49
      have hE49 := hE49.symm
      subst hE49
      clear hl49 hh49
      refine J_callS4 moX0_shiftY jw_ml_X3_59 jw_st_X0_shiftY dX3_lay_52 (w_X0_shiftY (d - 1) _ y26 x1 y45 y49 (by omega)  ) (by omega) (Nat.zero_le _) (Nat.zero_le _) (Nat.le_of_ble_eq_true rfl) (fun r52 V52 h52 => ?_)
      obtain ⟨⟨y52, rfl, hl52, hh52⟩, hE52⟩ := h52
      have hE52 := hE52.symm
      subst hE52
      clear hl52 hh52
      refine Jz_iaddw dX3_lay_55 (fun y55  => ?_)
      refine J_istore_n dX3_lay_56 rfl (by decide) ?_
      refine J_aload_n dX3_lay_57 rfl ?_
      refine Jw_callV0 (q9 := (RX3, TX3, 7)) moX3_endZ jw_ml_X3_63 jw_im_X3_endZ jw_se_X3_endZ ha0 rfl rfl dX3_lay_58 (w_X3_endZ (d - 1) _ a0 (by omega) hW ha0) (by omega) (Nat.zero_le _) (Nat.zero_le _) (Nat.le_of_ble_eq_true rfl) (fun r58 V58 h58 => ?_)
      obtain ⟨⟨y58, rfl, hl58, hh58⟩, hE58⟩ := h58
      have hE58 := hE58.symm
      subst hE58
      clear hl58 hh58
      refine J_aload_n dX3_lay_61 rfl ?_
      refine J_get jf_X3_9 dX3_lay_62 hO_a0 hF26 ?_
      refine J_iload_n dX3_lay_65 rfl ?_
      refine J_callS2 moX0_shiftZ jw_ml_X3_66 jw_st_X0_shiftZ dX3_lay_66 (w_X0_shiftZ (d - 1) _ y26 x1 (by omega)  ) (by omega) (Nat.zero_le _) (Nat.zero_le _) (Nat.le_of_ble_eq_true rfl) (fun r66 V66 h66 => ?_)
      obtain ⟨⟨y66, rfl, hl66, hh66⟩, hE66⟩ := h66
      have hE66 := hE66.symm
      subst hE66
      clear hl66 hh66
      refine Jz_iaddw dX3_lay_69 (fun y69  => ?_)
      refine J_istore dX3_lay_70 rfl (by decide) ?_
      refine J_aload_n dX3_lay_72 rfl ?_
      refine J_get jf_X3_30 dX3_lay_73 hO_a0 hF_s ?_
      refine J_aload_n dX3_lay_76 rfl ?_
      refine J_get jf_X3_15 dX3_lay_77 hO_a0 hF_n ?_
      refine J_iload_n dX3_lay_80 rfl ?_
      refine J_callSN3 moX6_put (host := "WalkGrounds") (List.mem_of_getElem? (i := 1) rfl) jw_st_X6_put dX3_lay_81 (w_X6_put_z (d - 1) _ s n x1 hW ha_S (WT_rngI (r := (-2147483648, 2147483647)) hW id rfl ha_S).1 rfl rfl (by omega)) (by omega) (Nat.zero_le _) (Nat.zero_le _) (Nat.le_of_ble_eq_true rfl) (fun r81 V81 h81 => ?_)
      obtain ⟨rfl, hW, hx81, hB81, G81, hA81, hp81, ho81⟩ := h81
      obtain ⟨hN81, hv81⟩ := WT_rngI (r := (-2147483648, 2147483647)) hW id rfl hA81
      clear hN81
      have he := he.trans (hx81.sub (jsub_of rfl))
      have hfp := hfp.trans (jfp.one hB81 (List.mem_cons_of_mem _ List.mem_cons_self))
      have ha0 := ha0.mono hx81.1
      have hb_s := hb_s.mono hx81.1
      have hb_xx := hb_xx.mono hx81.1
      have hb_yy := hb_yy.mono hx81.1
      have hb_zz := hb_zz.mono hx81.1
      have hO_a0 := hx81.2 _ _ hO_a0 (jnot_of rfl)
      have hK_a0 := hK_a0.mono hx81.1
      have ha_X := hx81.2 _ _ ha_X (jnot_of rfl)
      have ha_Y := hx81.2 _ _ ha_Y (jnot_of rfl)
      have ha_Z := hx81.2 _ _ ha_Z (jnot_of rfl)
      · refine J_aload_n dX3_lay_84 rfl ?_
        refine J_dup dX3_lay_85 rfl ?_
        refine J_get jf_X3_15 dX3_lay_86 hO_a0 hF_n ?_
        refine Jz_iconst 1 dX3_lay_89 (by decide) (fun y89 he89 => ?_)
        refine Jz_iadd jEq.rf he89 dX3_lay_90 (by omega) (by omega) (fun y90 he90 => ?_)
        refine Jz_putI hO_a0 hW id rfl jf_X3_15 jt_X3_6 he90 dX3_lay_91 (by omega) (by omega) (fun _ _ => ⟨rfl, rfl⟩) (fun V91 fs91 hW hx91 hO91 hS91 hT91 hB91 => ?_)
        have hK91 : jokO _ (jFs 1) fs91 := hW _ _ id hO91
        have hF91_0 := (hT91 0 (by decide)).trans hF_M
        have hF91_1 := (hT91 1 (by decide)).trans hF_s
        have hF91_2 := (hT91 2 (by decide)).trans hF_xx
        have hF91_3 := (hT91 3 (by decide)).trans hF_yy
        have hF91_4 := (hT91 4 (by decide)).trans hF_zz
        have hF91_5 := (hT91 5 (by decide)).trans hF26
        have he := he.trans (hx91.sub (jsub_of rfl))
        have hfp := hfp.trans (jfp.one hB91 List.mem_cons_self)
        have ha0 := ha0.mono hx91.1
        have hb_s := hb_s.mono hx91.1
        have hb_xx := hb_xx.mono hx91.1
        have hb_yy := hb_yy.mono hx91.1
        have hb_zz := hb_zz.mono hx91.1
        have ha_X := hx91.2 _ _ ha_X (jnot_of rfl)
        have ha_Y := hx91.2 _ _ ha_Y (jnot_of rfl)
        have ha_Z := hx91.2 _ _ ha_Z (jnot_of rfl)
        have hA81 := hx91.2 _ _ hA81 (jnot_of rfl)
        refine J_aload_n dX3_lay_94 rfl ?_
        refine J_get jf_X3_34 dX3_lay_95 hO91 hF91_2 ?_
        refine J_aload_n dX3_lay_98 rfl ?_
        refine J_get jf_X3_15 dX3_lay_99 hO91 hS91 ?_
        refine J_iload_n dX3_lay_102 rfl ?_
        refine J_callSN3 moX6_put (host := "WalkGrounds") (List.mem_of_getElem? (i := 1) rfl) jw_st_X6_put dX3_lay_103 (w_X6_put_z (d - 1) _ xx y90 y33 hW ha_X (WT_rngI (r := (-2147483648, 2147483647)) hW id rfl ha_X).1 rfl rfl (by (try simp only [he90.eq, true_and, and_true]) <;> omega)) (by omega) (Nat.zero_le _) (Nat.zero_le _) (Nat.le_of_ble_eq_true rfl) (fun r103 V103 h103 => ?_)
        obtain ⟨rfl, hW, hx103, hB103, G103, hA103, hp103, ho103⟩ := h103
        simp only [he90.eq] at hp103 ho103
        obtain ⟨hN103, hv103⟩ := WT_rngI (r := (-2147483648, 2147483647)) hW id rfl hA103
        clear hN103
        have he := he.trans (hx103.sub (jsub_of rfl))
        have hfp := hfp.trans (jfp.one hB103 (List.mem_cons_of_mem _ (List.mem_cons_of_mem _ List.mem_cons_self)))
        have ha0 := ha0.mono hx103.1
        have hb_s := hb_s.mono hx103.1
        have hb_xx := hb_xx.mono hx103.1
        have hb_yy := hb_yy.mono hx103.1
        have hb_zz := hb_zz.mono hx103.1
        have hO91 := hx103.2 _ _ hO91 (jnot_of rfl)
        have hK91 := hK91.mono hx103.1
        have ha_Y := hx103.2 _ _ ha_Y (jnot_of rfl)
        have ha_Z := hx103.2 _ _ ha_Z (jnot_of rfl)
        have hA81 := hx103.2 _ _ hA81 (jnot_of rfl)
        · refine J_aload_n dX3_lay_106 rfl ?_
          refine J_get jf_X3_37 dX3_lay_107 hO91 hF91_3 ?_
          refine J_aload_n dX3_lay_110 rfl ?_
          refine J_get jf_X3_15 dX3_lay_111 hO91 hS91 ?_
          refine J_iload_n dX3_lay_114 rfl ?_
          refine J_callSN3 moX6_put (host := "WalkGrounds") (List.mem_of_getElem? (i := 1) rfl) jw_st_X6_put dX3_lay_115 (w_X6_put_z (d - 1) _ yy y90 y55 hW ha_Y (WT_rngI (r := (-2147483648, 2147483647)) hW id rfl ha_Y).1 rfl rfl (by (try simp only [he90.eq, true_and, and_true]) <;> omega)) (by omega) (Nat.zero_le _) (Nat.zero_le _) (Nat.le_of_ble_eq_true rfl) (fun r115 V115 h115 => ?_)
          obtain ⟨rfl, hW, hx115, hB115, G115, hA115, hp115, ho115⟩ := h115
          simp only [he90.eq] at hp115 ho115
          obtain ⟨hN115, hv115⟩ := WT_rngI (r := (-2147483648, 2147483647)) hW id rfl hA115
          clear hN115
          have he := he.trans (hx115.sub (jsub_of rfl))
          have hfp := hfp.trans (jfp.one hB115 (List.mem_cons_of_mem _ (List.mem_cons_of_mem _ (List.mem_cons_of_mem _ List.mem_cons_self))))
          have ha0 := ha0.mono hx115.1
          have hb_s := hb_s.mono hx115.1
          have hb_xx := hb_xx.mono hx115.1
          have hb_yy := hb_yy.mono hx115.1
          have hb_zz := hb_zz.mono hx115.1
          have hO91 := hx115.2 _ _ hO91 (jnot_of rfl)
          have hK91 := hK91.mono hx115.1
          have ha_Z := hx115.2 _ _ ha_Z (jnot_of rfl)
          have hA81 := hx115.2 _ _ hA81 (jnot_of rfl)
          have hA103 := hx115.2 _ _ hA103 (jnot_of rfl)
          · refine J_aload_n dX3_lay_118 rfl ?_
            refine J_get jf_X3_40 dX3_lay_119 hO91 hF91_4 ?_
            refine J_aload_n dX3_lay_122 rfl ?_
            refine J_get jf_X3_15 dX3_lay_123 hO91 hS91 ?_
            refine J_iload dX3_lay_126 rfl ?_
            refine J_callSN3 moX6_put (host := "WalkGrounds") (List.mem_of_getElem? (i := 1) rfl) jw_st_X6_put dX3_lay_128 (w_X6_put_z (d - 1) _ zz y90 y69 hW ha_Z (WT_rngI (r := (-2147483648, 2147483647)) hW id rfl ha_Z).1 rfl rfl (by (try simp only [he90.eq, true_and, and_true]) <;> omega)) (by omega) (Nat.zero_le _) (Nat.zero_le _) (Nat.le_of_ble_eq_true rfl) (fun r128 V128 h128 => ?_)
            obtain ⟨rfl, hW, hx128, hB128, G128, hA128, hp128, ho128⟩ := h128
            simp only [he90.eq] at hp128 ho128
            obtain ⟨hN128, hv128⟩ := WT_rngI (r := (-2147483648, 2147483647)) hW id rfl hA128
            clear hN128
            have he := he.trans (hx128.sub (jsub_of rfl))
            have hfp := hfp.trans (jfp.one hB128 (List.mem_cons_of_mem _ (List.mem_cons_of_mem _ (List.mem_cons_of_mem _ (List.mem_cons_of_mem _ List.mem_cons_self)))))
            have ha0 := ha0.mono hx128.1
            have hb_s := hb_s.mono hx128.1
            have hb_xx := hb_xx.mono hx128.1
            have hb_yy := hb_yy.mono hx128.1
            have hb_zz := hb_zz.mono hx128.1
            have hO91 := hx128.2 _ _ hO91 (jnot_of rfl)
            have hK91 := hK91.mono hx128.1
            have hA81 := hx128.2 _ _ hA81 (jnot_of rfl)
            have hA103 := hx128.2 _ _ hA103 (jnot_of rfl)
            have hA115 := hx128.2 _ _ hA115 (jnot_of rfl)
            · refine Jz_iconst 1 dX3_lay_131 (by decide) (fun y131 he131 => ?_)
              exact J_ret (r := some (.int _)) dX3_lay_132 ⟨rfl, _, rfl, (nar_b (by (try simp only [he131.eq, true_and, and_true]) <;> omega) (by (try simp only [he131.eq, true_and, and_true]) <;> omega))⟩ (⟨⟨hW, he, ⟨_, rfl, (by (try simp only [he131.eq, true_and, and_true]) <;> omega), (by (try simp only [he131.eq, true_and, and_true]) <;> omega)⟩⟩, (jrk.mk hr_s hr_xx hr_yy hr_zz hfp hf_M ⟨_, hO91, hF91_0⟩ (jk1.mk ha0_S hA81) (jk0.mk ha0_X hA103 (ho103 0 (by omega))) (jk0.mk ha0_Y hA115 (ho115 0 (by omega))) (jk0.mk ha0_Z hA128 (ho128 0 (by omega))))⟩)
    · refine Jz_iconst 0 dX3_lay_19 (by decide) (fun y19 he19 => ?_)
      exact J_ret (r := some (.int _)) dX3_lay_20 ⟨rfl, _, rfl, (nar_b (by (try simp only [he19.eq, true_and, and_true]) <;> omega) (by (try simp only [he19.eq, true_and, and_true]) <;> omega))⟩ (⟨⟨hW, he, ⟨_, rfl, (by (try simp only [he19.eq, true_and, and_true]) <;> omega), (by (try simp only [he19.eq, true_and, and_true]) <;> omega)⟩⟩, jrk.rf⟩)
theorem w_X3_lay_rk0 {tS : jTS} (d : Nat) (V0 : jH) (a0 : Nat) (x1 : Int32) (hd : 5 ≤ d) (hW : WT V0) (ha0 : jis V0 (.inr 1) a0)  : jTot tS mX3_lay d [.ref a0, .int x1] V0 0 0 (fun r V => (jPost [.inr 1, .inl 6, .inl 34, .inl 35, .inl 36] V0 (fun r _ => ∃ y : Int32, r = some (.int y) ∧ (0 ≤ y.toInt) ∧ (y.toInt ≤ 1))) r V ∧ jrk a0 V0 V) := by
  obtain ⟨M, n, s, x, y, z, l1, l2, l3, l4, S, X, Y, Z, h0, h6, h1, h2, h3, h4, g1, g2, g3, g4⟩ := WT_row hW ha0
  exact w_X3_lay_rk d V0 a0 x1 M n s x y z S X Y Z (by omega) hW ha0 h0 h6 h1 h2 h3 h4 g1 g2 g3 g4 
set_option maxRecDepth 100000 in
set_option maxHeartbeats 4000000 in
theorem w_X3_init {tS : jTS} (d : Nat) (V0 : jH) (p : Nat → Prop) (q : Nat) (x1 : Int32)  (hd : 1 ≤ d) (hW : WTx (fun a => p a ∨ a = q) V0) (hq : V0 q = some (.inr (1, [.int 0, .null, .null, .null, .null, .int 0, .int 0]))) (hnp : ¬ p q)   : jTot tS mX3_init d [.ref q, .int x1] V0 4 484 (fun r V => r = none ∧ WTx p V ∧ jeff [.inr 1] V0 V ∧ jis V (.inr 1) q ∧ (jnw V0 V q x1)) := by
  refine jTot.of_J [some (.ref q), some (.int x1)] moX3_init (Nat.le_of_ble_eq_true rfl) rfl ?_
  have he : jeff [.inr 1] V0 V0 := jeff.refl _ _
  have hkp : jfa [q] V0 V0 := jfa.rf
  refine J_aload_n dX3_init_0 rfl ?_
  refine J_objInit jw_ml_X3_3 jw_oi2 jw_oi3 dX3_init_1 (by omega) (Nat.le_of_ble_eq_true rfl) ?_
  refine J_aload_n dX3_init_4 rfl ?_
  refine J_iconst (v := 0) dX3_init_5 (by decide) ?_
  refine Jc_put jf_X3_9 jt_X3_5 dX3_init_6 hq rfl rfl (Nat.le_of_ble_eq_true rfl) (fun _ h => by cases h) hW (fun V6 hq hW hx6 hB6 => ?_)
  have hkp := hkp.trans he.1 (jfa.one hB6)
  have he := he.trans (hx6.sub (jsub_of rfl))
  refine J_aload_n dX3_init_9 rfl ?_
  refine J_iconst (v := 0) dX3_init_10 (by decide) ?_
  refine Jc_put jf_X3_15 jt_X3_6 dX3_init_11 hq rfl rfl (Nat.le_of_ble_eq_true rfl) (fun _ h => by cases h) hW (fun V11 hq hW hx11 hB11 => ?_)
  have hkp := hkp.trans he.1 (jfa.one hB11)
  have he := he.trans (hx11.sub (jsub_of rfl))
  refine J_aload_n dX3_init_14 rfl ?_
  refine J_iconst (v := 0) dX3_init_15 (by decide) ?_
  refine J_iload_n dX3_init_16 rfl ?_
  refine J_bipush (v := 120) dX3_init_17 (by decide) ?_
  refine J_mmin jw_ml_X3_18 dX3_init_19 (by omega) (Nat.le_of_ble_eq_true rfl) ?_
  refine J_mmax jw_ml_X3_24 dX3_init_22 (by omega) (Nat.le_of_ble_eq_true rfl) ?_
  refine Jc_putF jf_X3_27 jt_X3_0 rfl (fun _ h => by cases h; rfl) dX3_init_25 hq rfl rfl (Nat.le_of_ble_eq_true rfl) (fun _ h => by cases h) hW (fun V25 hq hW hx25 hB25 => ?_)
  have hkp := hkp.trans he.1 (jfa.one hB25)
  have he := he.trans (hx25.sub (jsub_of rfl))
  refine J_aload_n dX3_init_28 rfl ?_
  refine J_aload_n dX3_init_29 rfl ?_
  refine J_get jf_X3_27 dX3_init_30 hq rfl ?_
  refine Jc_newax (atype := .int) (t := 6) (B := 121) (x := .inl (fun _ => 0)) jw_ac_int rfl (fun _ h => by cases h) (by decide) dX3_init_33 (jmost_lo _) (jmost_hi _) (by decide) (fun _ _ => rfl) (fun hN => jok_zI rfl (by decide) (by decide) (fun m h => by cases h <;> rfl) hN) (by decide) (by decide) hW (fun b33 V33 hn33 hb33 hk33 hW hx33 hA33 => ?_)
  have hz33 := he.1.none hn33
  have hkp := hkp.trans he.1 (jfa.new hk33)
  have he := he.trans (hx33.sub (jsub_of rfl))
  have hq := hk33 _ _ hq
  refine Jc_putF jf_X3_30 jt_X3_1 rfl (fun _ h => by cases h; rfl) dX3_init_35 hq rfl rfl (Nat.le_of_ble_eq_true rfl) (fun _ h => by cases h) hW (fun V35 hq hW hx35 hB35 => ?_)
  have hkp := hkp.trans he.1 (jfa.one hB35)
  have he := he.trans (hx35.sub (jsub_of rfl))
  have hb33 := hb33.mono hx35.1
  have hA33 := hx35.2 _ _ hA33 (jnot_of rfl)
  refine J_aload_n dX3_init_38 rfl ?_
  refine J_aload_n dX3_init_39 rfl ?_
  refine J_get jf_X3_27 dX3_init_40 hq rfl ?_
  refine J_iconst (v := 1) dX3_init_43 (by decide) ?_
  refine J_iadd dX3_init_44 ?_
  refine Jc_newax (atype := .int) (t := 34) (B := 121) (x := .inl (fun _ => 0)) jw_ac_int rfl (fun _ h => by cases h) (by decide) dX3_init_45 (jmost1_lo _) (jmost1_hi _) (by decide) (fun _ _ => rfl) (fun hN => jok_zI rfl (by decide) (by decide) (fun m h => by cases h <;> rfl) hN) (by decide) (by decide) hW (fun b45 V45 hn45 hb45 hk45 hW hx45 hA45 => ?_)
  have hz45 := he.1.none hn45
  have hkp := hkp.trans he.1 (jfa.new hk45)
  have he := he.trans (hx45.sub (jsub_of rfl))
  have hb33 := hb33.mono hx45.1
  have hq := hk45 _ _ hq
  have hA33 := hk45 _ _ hA33
  refine Jc_putF jf_X3_34 jt_X3_2 rfl (fun _ h => by cases h; rfl) dX3_init_47 hq rfl rfl (Nat.le_of_ble_eq_true rfl) (fun _ h => by cases h) hW (fun V47 hq hW hx47 hB47 => ?_)
  have hkp := hkp.trans he.1 (jfa.one hB47)
  have he := he.trans (hx47.sub (jsub_of rfl))
  have hb33 := hb33.mono hx47.1
  have hb45 := hb45.mono hx47.1
  have hA33 := hx47.2 _ _ hA33 (jnot_of rfl)
  have hA45 := hx47.2 _ _ hA45 (jnot_of rfl)
  refine J_aload_n dX3_init_50 rfl ?_
  refine J_aload_n dX3_init_51 rfl ?_
  refine J_get jf_X3_27 dX3_init_52 hq rfl ?_
  refine J_iconst (v := 1) dX3_init_55 (by decide) ?_
  refine J_iadd dX3_init_56 ?_
  refine Jc_newax (atype := .int) (t := 35) (B := 121) (x := .inl (fun _ => 0)) jw_ac_int rfl (fun _ h => by cases h) (by decide) dX3_init_57 (jmost1_lo _) (jmost1_hi _) (by decide) (fun _ _ => rfl) (fun hN => jok_zI rfl (by decide) (by decide) (fun m h => by cases h <;> rfl) hN) (by decide) (by decide) hW (fun b57 V57 hn57 hb57 hk57 hW hx57 hA57 => ?_)
  have hz57 := he.1.none hn57
  have hkp := hkp.trans he.1 (jfa.new hk57)
  have he := he.trans (hx57.sub (jsub_of rfl))
  have hb33 := hb33.mono hx57.1
  have hb45 := hb45.mono hx57.1
  have hq := hk57 _ _ hq
  have hA33 := hk57 _ _ hA33
  have hA45 := hk57 _ _ hA45
  refine Jc_putF jf_X3_37 jt_X3_3 rfl (fun _ h => by cases h; rfl) dX3_init_59 hq rfl rfl (Nat.le_of_ble_eq_true rfl) (fun _ h => by cases h) hW (fun V59 hq hW hx59 hB59 => ?_)
  have hkp := hkp.trans he.1 (jfa.one hB59)
  have he := he.trans (hx59.sub (jsub_of rfl))
  have hb33 := hb33.mono hx59.1
  have hb45 := hb45.mono hx59.1
  have hb57 := hb57.mono hx59.1
  have hA33 := hx59.2 _ _ hA33 (jnot_of rfl)
  have hA45 := hx59.2 _ _ hA45 (jnot_of rfl)
  have hA57 := hx59.2 _ _ hA57 (jnot_of rfl)
  refine J_aload_n dX3_init_62 rfl ?_
  refine J_aload_n dX3_init_63 rfl ?_
  refine J_get jf_X3_27 dX3_init_64 hq rfl ?_
  refine J_iconst (v := 1) dX3_init_67 (by decide) ?_
  refine J_iadd dX3_init_68 ?_
  refine Jc_newax (atype := .int) (t := 36) (B := 121) (x := .inl (fun _ => 0)) jw_ac_int rfl (fun _ h => by cases h) (by decide) dX3_init_69 (jmost1_lo _) (jmost1_hi _) (by decide) (fun _ _ => rfl) (fun hN => jok_zI rfl (by decide) (by decide) (fun m h => by cases h <;> rfl) hN) (by decide) (by decide) hW (fun b69 V69 hn69 hb69 hk69 hW hx69 hA69 => ?_)
  have hz69 := he.1.none hn69
  have hkp := hkp.trans he.1 (jfa.new hk69)
  have he := he.trans (hx69.sub (jsub_of rfl))
  have hb33 := hb33.mono hx69.1
  have hb45 := hb45.mono hx69.1
  have hb57 := hb57.mono hx69.1
  have hq := hk69 _ _ hq
  have hA33 := hk69 _ _ hA33
  have hA45 := hk69 _ _ hA45
  have hA57 := hk69 _ _ hA57
  refine Jc_putF jf_X3_40 jt_X3_4 rfl (fun _ h => by cases h; rfl) dX3_init_71 hq rfl rfl (Nat.le_of_ble_eq_true rfl) (fun _ h => by cases h) hW (fun V71 hq hW hx71 hB71 => ?_)
  have hkp := hkp.trans he.1 (jfa.one hB71)
  have he := he.trans (hx71.sub (jsub_of rfl))
  have hb33 := hb33.mono hx71.1
  have hb45 := hb45.mono hx71.1
  have hb57 := hb57.mono hx71.1
  have hb69 := hb69.mono hx71.1
  have hA33 := hx71.2 _ _ hA33 (jnot_of rfl)
  have hA45 := hx71.2 _ _ hA45 (jnot_of rfl)
  have hA57 := hx71.2 _ _ hA57 (jnot_of rfl)
  have hA69 := hx71.2 _ _ hA69 (jnot_of rfl)
  have hlm := jmost_lo x1
  have hhm := jmost_hi0 x1
  exact J_ret (r := none) dX3_init_74 ⟨rfl, rfl⟩ (⟨rfl, hW.fin hq (jokO_cons ⟨_, rfl, by first | decide | assumption | omega, by first | decide | assumption | omega⟩ (jokO_cons ⟨_, rfl, hb33⟩ (jokO_cons ⟨_, rfl, hb45⟩ (jokO_cons ⟨_, rfl, hb57⟩ (jokO_cons ⟨_, rfl, hb69⟩ (jokO_cons ⟨_, rfl, (j_rng _).1, (j_rng _).2⟩ (jokO_cons ⟨_, rfl, by first | decide | assumption | omega, by first | decide | assumption | omega⟩ (jokO_nil)))))))), he, ⟨_, hq, rfl⟩, jnw.mk hz33 hz45 hz57 hz69 ⟨_, hq, rfl⟩ ⟨_, hq, rfl⟩ ⟨_, hq, rfl⟩ ⟨_, hq, rfl⟩ ⟨_, hq, rfl⟩ ⟨_, hq, rfl⟩ ⟨_, hq, rfl⟩ hA33 hA45 hA57 hA69 hkp⟩)
set_option maxRecDepth 100000 in
set_option maxHeartbeats 8000000 in
theorem w_X0_isGround_z {tS : jTS} (d : Nat) (V0 : jH) (x0 : Int32) (hd : 0 ≤ d)   : jTot tS mX0_isGround d [.int x0] V0 0 0 (fun r V => (fun r _ => ∃ y : Int32, r = some (.int y) ∧ (0 ≤ y.toInt) ∧ (y.toInt ≤ 1) ∧ ((y.toInt = 1 ∧ 0 ≤ x0.toInt ∧ x0.toInt ≤ 3) ∨ (y.toInt = 0 ∧ ¬ (0 ≤ x0.toInt ∧ x0.toInt ≤ 3)))) r V ∧ V = V0) := by
  refine jTot.of_J [some (.int x0)] moX0_isGround (Nat.le_of_ble_eq_true rfl) rfl ?_
  have hrx0 := j_rng x0
  refine J_iload_n dX0_isGround_0 rfl ?_
  refine Jz_if_lt (tgt := 13) jEq.rf dX0_isGround_1 (by decide) (fun c1 => ?_) (fun c1 => ?_)
  · refine Jz_iconst 0 dX0_isGround_13 (by decide) (fun y13 he13 => ?_)
    exact J_ret (r := some (.int _)) dX0_isGround_14 ⟨rfl, _, rfl, (nar_b (by (try simp only [he13.eq, true_and, and_true]) <;> omega) (by (try simp only [he13.eq, true_and, and_true]) <;> omega))⟩ (⟨⟨_, rfl, (by (try simp only [he13.eq, true_and, and_true]) <;> omega), (by (try simp only [he13.eq, true_and, and_true]) <;> omega), (by (try simp only [he13.eq, true_and, and_true]) <;> omega)⟩, rfl⟩)
  · refine J_iload_n dX0_isGround_4 rfl ?_
    refine Jz_iconst 4 dX0_isGround_5 (by decide) (fun y5 he5 => ?_)
    refine Jz_icmp_ge (tgt := 13) jEq.rf he5 dX0_isGround_6 (by decide) (fun c6 => ?_) (fun c6 => ?_)
    · refine Jz_iconst 0 dX0_isGround_13 (by decide) (fun y13 he13 => ?_)
      exact J_ret (r := some (.int _)) dX0_isGround_14 ⟨rfl, _, rfl, (nar_b (by (try simp only [he13.eq, true_and, and_true]) <;> omega) (by (try simp only [he13.eq, true_and, and_true]) <;> omega))⟩ (⟨⟨_, rfl, (by (try simp only [he13.eq, true_and, and_true]) <;> omega), (by (try simp only [he13.eq, true_and, and_true]) <;> omega), (by (try simp only [he13.eq, true_and, and_true]) <;> omega)⟩, rfl⟩)
    · refine Jz_iconst 1 dX0_isGround_9 (by decide) (fun y9 he9 => ?_)
      refine J_goto (tgt := 14) dX0_isGround_10 (by decide) ?_
      exact J_ret (r := some (.int _)) dX0_isGround_14 ⟨rfl, _, rfl, (nar_b (by (try simp only [he9.eq, true_and, and_true]) <;> omega) (by (try simp only [he9.eq, true_and, and_true]) <;> omega))⟩ (⟨⟨_, rfl, (by (try simp only [he9.eq, true_and, and_true]) <;> omega), (by (try simp only [he9.eq, true_and, and_true]) <;> omega), (by (try simp only [he9.eq, true_and, and_true]) <;> omega)⟩, rfl⟩)
set_option maxRecDepth 100000 in
set_option maxHeartbeats 8000000 in
theorem w_X3_begin_z {tS : jTS} (d : Nat) (V0 : jH) (a0 : Nat) (x1 : Int32) (M : Int32) (hd : 0 ≤ d) (hW : WT V0) (ha0 : jis V0 (.inr 1) a0) (hf_M : jfI V0 a0 1 0 M) : jTot tS mX3_begin d [.ref a0, .int x1] V0 0 0 (fun r V => (jPost [.inr 1] V0 rV) r V ∧ jfp [a0] V0 V ∧ (∃ M2 : Int32, jfI V a0 1 0 M2 ∧ (M2.toInt = M.toInt)) ∧ (∃ g2 : Int32, jfI V a0 1 5 g2 ∧ (g2.toInt = x1.toInt)) ∧ (∃ n2 : Int32, jfI V a0 1 6 n2 ∧ (n2.toInt = 0))) := by
  refine jTot.of_J [some (.ref a0), some (.int x1)] moX3_begin (Nat.le_of_ble_eq_true rfl) rfl ?_
  have hrx1 := j_rng x1
  have he : jeff [.inr 1] V0 V0 := jeff.refl _ _
  have hfp : jfp [a0] V0 V0 := jfp.rf
  obtain ⟨fs_a0, hO_a0, hK_a0⟩ := WT_obj hW id ha0
  have hF_M := hf_M.get hO_a0
  have hrM : 0 ≤ M.toInt ∧ M.toInt ≤ 120 := jok_rngI hK_a0 rfl hF_M
  refine J_aload_n dX3_begin_0 rfl ?_
  refine J_iload_n dX3_begin_1 rfl ?_
  refine Jz_putI hO_a0 hW id rfl jf_X3_9 jt_X3_5 jEq.rf dX3_begin_2 (j_rng _).1 (j_rng _).2 (fun _ _ => ⟨rfl, rfl⟩) (fun V2 fs2 hW hx2 hO2 hS2 hT2 hB2 => ?_)
  have hK2 : jokO _ (jFs 1) fs2 := hW _ _ id hO2
  have hF2_0 := (hT2 0 (by decide)).trans hF_M
  have he := he.trans (hx2.sub (jsub_of rfl))
  have hfp := hfp.trans (jfp.one hB2 List.mem_cons_self)
  have ha0 := ha0.mono hx2.1
  refine J_aload_n dX3_begin_5 rfl ?_
  refine Jz_iconst 0 dX3_begin_6 (by decide) (fun y6 he6 => ?_)
  refine Jz_putI hO2 hW id rfl jf_X3_15 jt_X3_6 he6 dX3_begin_7 (by omega) (by omega) (fun _ _ => ⟨rfl, rfl⟩) (fun V7 fs7 hW hx7 hO7 hS7 hT7 hB7 => ?_)
  have hK7 : jokO _ (jFs 1) fs7 := hW _ _ id hO7
  have hF7_5 := (hT7 5 (by decide)).trans hS2
  have hF7_0 := (hT7 0 (by decide)).trans hF2_0
  have he := he.trans (hx7.sub (jsub_of rfl))
  have hfp := hfp.trans (jfp.one hB7 List.mem_cons_self)
  have ha0 := ha0.mono hx7.1
  exact J_ret (r := none) dX3_begin_10 ⟨rfl, rfl⟩ (⟨⟨hW, he, rfl⟩, hfp, ⟨_, ⟨_, hO7, hF7_0⟩, (by omega)⟩, ⟨_, ⟨_, hO7, hF7_5⟩, (by omega)⟩, ⟨_, ⟨_, hO7, hS7⟩, (by (try simp only [he6.eq, true_and, and_true]) <;> omega)⟩⟩)
theorem w_X6_walk_zgo {tS : jTS} (d : Nat) (V0 : jH) (a0 : Nat) (x1 : Int32) (k : Int32) (md : Nat) (f : Nat → Option Nat) (hd : 6 ≤ d) (hW : WT V0) (ha0 : jis V0 (.inr 4) a0) (hk1 : jfI V0 a0 4 1 k) (hmd : jfR V0 a0 4 0 md) (hA : V0 md = some (.inl (4, 16, .inr (.inr (.inr (.inr f)))))) (hk0 : 0 ≤ k.toInt) (hk : k.toInt < 16) (hx0 : 0 ≤ x1.toInt) (hx3 : x1.toInt ≤ 3) : jTot tS mX6_walk d [.ref a0, .int x1] V0 5 491 (fun r V => (jPost [.inr 1, .inl 4, .inr 4] V0 (fun r _ => ∃ y : Int32, r = some (.int y) ∧ y.toInt = k.toInt)) r V ∧ (∃ w : Int32, jfI V a0 4 1 w ∧ w.toInt = k.toInt + 1) ∧ ∃ q s xx yy zz : Nat, (V0 q = none ∧ V0 s = none ∧ V0 xx = none ∧ V0 yy = none ∧ V0 zz = none) ∧ jrw V q s xx yy zz 60 x1.toInt 0 (fun _ => 0) (fun _ => 0) (fun _ => 0) (fun _ => 0) ∧ V md = some (.inl (4, 16, .inr (.inr (.inr (.inr (va_up f k.toInt.toNat (some q))))))) ∧ ∀ (b : Nat) (e : jE), b ≠ a0 → b ≠ md → V0 b = some e → V b = some e) := by
  refine jTot.of_J [some (.ref a0), some (.int x1), none] moX6_walk (Nat.le_of_ble_eq_true rfl) rfl ?_
  obtain ⟨fs, hO, hF1⟩ := hk1
  have hF0 := hmd.get hO
  have hK : jokO V0 (jFs 4) fs := hW _ _ id hO
  refine J_iload_n dX6_walk_0 rfl ?_
  refine J_callS1 moX0_isGround jw_ml_X6_46 jw_st_X0_isGround dX6_walk_1 (w_X0_isGround_z (d - 1) _ x1 (by omega)) (by omega) (Nat.zero_le _) (Nat.zero_le _) (Nat.le_of_ble_eq_true rfl) (fun r1 V1 h1 => ?_)
  obtain ⟨⟨y1, rfl, hl1, hh1, hP1_0⟩, hE1⟩ := h1
  have hE1 := hE1.symm
  subst hE1
  refine Jz_if_ne (tgt := 10) jEq.rf dX6_walk_4 (by decide) (fun c4 => ?_) (fun c4 => (show False by omega).elim)
  refine J_aload_n dX6_walk_10 rfl ?_
  refine J_get jf_X6_15 dX6_walk_11 hO hF1 ?_
  refine Jz_if_lt (tgt := 29) jEq.rf dX6_walk_14 (by decide) (fun c14 => (show False by omega).elim) (fun c14 => ?_)
  refine J_aload_n dX6_walk_17 rfl ?_
  refine J_get jf_X6_15 dX6_walk_18 hO hF1 ?_
  refine J_aload_n dX6_walk_21 rfl ?_
  refine J_get jf_X6_11 dX6_walk_22 hO hF0 ?_
  refine J_alen dX6_walk_25 hA rfl rfl ?_
  have he25 : jEq (Int32.ofNat 16).toInt 16 := nI_toInt (by decide)
  generalize Int32.ofNat 16 = y25 at he25 ⊢
  refine Jz_icmp_lt (tgt := 32) jEq.rf he25 dX6_walk_26 (by decide) (fun c26 => ?_) (fun c26 => (show False by omega).elim)
  refine Jc_new jn_X6_9 dX6_walk_32 (by decide) (by decide) hW (fun q V2 hn2 hQ2 hk2 hW hx2 => ?_)
  refine J_dup dX6_walk_35 rfl ?_
  refine J_bipush (v := 60) dX6_walk_36 (by decide) ?_
  refine J_callI1 moX3_init rfl rfl jw_ml_X6_19 jw_im_X3_init dX6_walk_38 (w_X3_init (d - 1) _ (fun _ => False) _ _ (by omega) hW hQ2 (fun h => h)) (by omega) (by decide) (by decide) (Nat.le_of_ble_eq_true rfl) (fun r3 V3 h3 => ?_)
  obtain ⟨rfl, hW, hx3', hj3, s, xx, yy, zz, ⟨n1, n2, n3, n4⟩, hjw, hfa⟩ := h3
  rw [show (jmost 60).toInt.toNat = 60 by decide] at hjw
  obtain ⟨⟨q0, m0, e0⟩, m5, m6, r1, r2, r3, r4, a1, a2, a3, a4⟩ := hjw
  refine J_astore_n dX6_walk_41 rfl (by decide) ?_
  refine J_aload_n dX6_walk_42 rfl ?_
  refine J_iload_n dX6_walk_43 rfl ?_
  refine Jw_callV1 (q9 := (RX3, TX3, 7)) moX3_begin jw_ml_X6_52 jw_im_X3_begin jw_se_X3_begin hj3 rfl rfl dX6_walk_44 (w_X3_begin_z (d - 1) _ q x1 q0 (by omega) hW hj3 m0) (by omega) (Nat.zero_le _) (Nat.zero_le _) (Nat.le_of_ble_eq_true rfl) (fun r4' V4 h4 => ?_)
  obtain ⟨⟨hW, hx4, hr4⟩, hfp4, ⟨M2, b0, c0⟩, ⟨g2, b5, c5⟩, ⟨n2', b6, c6⟩⟩ := h4
  cases hr4
  have he := ((hx2.sub (jsub_of rfl : ∀ k ∈ ([] : List jKd), k ∈ ([.inr 1, .inl 4, .inr 4] : List jKd))).trans (hx3'.sub (jsub_of rfl))).trans (hx4.sub (jsub_of rfl))
  have hO4 := hx4.2 _ _ (hx3'.2 _ _ (hx2.2 _ _ hO (jnot_of rfl)) (jnot_of rfl)) (jnot_of rfl)
  have hA4 := hx4.2 _ _ (hx3'.2 _ _ (hx2.2 _ _ hA (jnot_of rfl)) (jnot_of rfl)) (jnot_of rfl)
  refine J_aload_n dX6_walk_47 rfl ?_
  refine J_get jf_X6_11 dX6_walk_48 hO4 hF0 ?_
  refine J_aload_n dX6_walk_51 rfl ?_
  refine J_get jf_X6_15 dX6_walk_52 hO4 hF1 ?_
  refine J_aload_n dX6_walk_55 rfl ?_
  refine Jw_aast hW id dX6_walk_56 rfl rfl hA4 rfl (hj3.mono hx4.1) (vp_in_n (by omega) (by omega)) (fun V5 hW hx5 hy5 hw5 => ?_)
  have hO5 := hx5.2 _ _ hO4 (jnot_of rfl)
  have hK5 : jokO V5 (jFs 4) fs := hW _ _ id hO5
  refine J_aload_n dX6_walk_57 rfl ?_
  refine J_dup dX6_walk_58 rfl ?_
  refine J_get jf_X6_15 dX6_walk_59 hO5 hF1 ?_
  refine Jz_iconst 1 dX6_walk_62 (by decide) (fun y6 he6 => ?_)
  refine Jz_iadd jEq.rf he6 dX6_walk_63 (by omega) (by omega) (fun y7 he7 => ?_)
  refine Jz_putI hO5 hW id rfl jf_X6_15 jt_X6_1 he7 dX6_walk_64 (by omega) (by omega) (fun _ _ => ⟨rfl, rfl⟩) (fun V6 fs6 hW hx6 hO6 hS6 hT6 hB6 => ?_)
  refine J_aload_n dX6_walk_67 rfl ?_
  refine J_get jf_X6_15 dX6_walk_68 hO6 hS6 ?_
  refine Jz_iconst 1 dX6_walk_71 (by decide) (fun y8 he8 => ?_)
  refine Jz_isub he7 he8 dX6_walk_72 (by omega) (by omega) (fun y9 he9 => ?_)
  have hq2 : V0 q = none := hn2
  have hnx : ∀ b : Nat, V2 b = none → V0 b = none := fun b hb => hx2.1.none hb
  refine J_ret (r := some (.int _)) dX6_walk_73 ⟨rfl, _, rfl, rfl⟩ ⟨⟨hW, (he.trans (hx5.sub (jsub_of rfl))).trans (hx6.sub (jsub_of rfl)), _, rfl, by rw [he9.eq]; omega⟩, ⟨y7, ⟨_, hO6, hS6⟩, he7.eq⟩, q, s, xx, yy, zz, ⟨hq2, hnx s n1, hnx xx n2, hnx yy n3, hnx zz n4⟩, ?_, ?_, ?_⟩
  · refine jrw.keep (jrw.keep ⟨⟨M2, b0, by rw [c0]; exact e0⟩, ⟨g2, b5, c5⟩, ⟨n2', b6, c6⟩, r1.mono hx4.1, r2.mono hx4.1, r3.mono hx4.1, r4.mono hx4.1, hx4.2 _ _ a1 (jnot_of rfl), hx4.2 _ _ a2 (jnot_of rfl), hx4.2 _ _ a3 (jnot_of rfl), hx4.2 _ _ a4 (jnot_of rfl)⟩ hx5 (jdis_of rfl)) hx6 (jdis_of rfl)
  · exact hx6.2 _ _ hw5 (jnot_of rfl)
  · intro b e hb1 hb2 h
    have hbq : b ∉ [q] := fun z => by rw [List.mem_singleton.mp z, hq2] at h; cases h
    rw [hB6 b hb1, hy5 b hb2, hfp4 b hbq]
    exact hfa b e hbq (hk2 b e h)
set_option maxRecDepth 100000 in
set_option maxHeartbeats 4000000 in
theorem w_X1_countForms {tS : jTS} : ∀ (K d : Nat) (V0 : jH) (a0 : Nat) (x1 : Int32) (x2 : Int32), 5 + K ≤ d → WT V0 → jis V0 (.inr 1) a0 → 0 ≤ x2.toInt → x2.toInt ≤ 7 → (8 - x2.toInt).toNat < K → jTot tS mX1_countForms d [.ref a0, .int x1, .int x2] V0 0 0 (fun r V => (jPost [.inr 1, .inl 6, .inl 34, .inl 35, .inl 36] V0 rN) r V ∧ jrk a0 V0 V) := by
  intro K
  induction K with
  | zero => intro d V0 a0 x1 x2 hd hW ha0 hl2 hh2 hrk; exact absurd hrk (Nat.not_lt_zero _)
  | succ K IH =>
  intro d V0 a0 x1 x2 hd hW ha0 hl2 hh2 hrk
  refine jTot.of_J [some (.ref a0), some (.int x1), some (.int x2), none, none] moX1_countForms (Nat.le_of_ble_eq_true rfl) rfl ?_
  have he : jeff [.inr 1, .inl 6, .inl 34, .inl 35, .inl 36] V0 V0 := jeff.refl _ _
  have hkp : jrk a0 V0 V0 := jrk.rf
  refine J_iload_n dX1_countForms_0 rfl ?_
  refine J_iload_n dX1_countForms_1 rfl ?_
  refine J_icmp_ge (tgt := 11) dX1_countForms_2 (by decide) (fun c2 => ?_) (fun c2 => ?_)
  · refine J_aload_n dX1_countForms_11 rfl ?_
    refine J_callS1 moX1_isOwnForm jw_ml_X1_61 jw_st_X1_isOwnForm dX1_countForms_12 (w_X1_isOwnForm (d - 1) _ _ (by omega) hW  ha0 ) (by omega) (Nat.zero_le _) (Nat.zero_le _) (Nat.le_of_ble_eq_true rfl) (fun r12 V12 h12 => ?_)
    obtain ⟨⟨y12, rfl, hl12, hh12⟩, hE12⟩ := h12
    have hE12 := hE12.symm
    subst hE12
    refine J_if_eq (tgt := 22) dX1_countForms_15 (by decide) (fun c15 => ?_) (fun c15 => ?_)
    · refine J_iconst (v := 0) dX1_countForms_22 (by decide) ?_
      exact J_ret (r := some (.int _)) dX1_countForms_23 ⟨rfl, _, rfl, rfl⟩ (⟨⟨hW, he, rN_of _⟩, hkp⟩)
    · refine J_iconst (v := 1) dX1_countForms_18 (by decide) ?_
      refine J_goto (tgt := 23) dX1_countForms_19 (by decide) ?_
      exact J_ret (r := some (.int _)) dX1_countForms_23 ⟨rfl, _, rfl, rfl⟩ (⟨⟨hW, he, rN_of _⟩, hkp⟩)
  · refine J_iload_n dX1_countForms_5 rfl ?_
    refine J_bipush (v := 7) dX1_countForms_6 (by decide) ?_
    refine J_icmp_lt (tgt := 24) dX1_countForms_8 (by decide) (fun c8 => ?_) (fun c8 => ?_)
    · refine J_iconst (v := 0) dX1_countForms_24 (by decide) ?_
      refine J_istore_n dX1_countForms_25 rfl (by decide) ?_
      refine J_iconst (v := 0) dX1_countForms_26 (by decide) ?_
      refine J_istore dX1_countForms_27 rfl (by decide) ?_
      have L29 : ∀ (N : Nat) (V : jH) (i3 : Int32) (i4 : Int32), WT V → jeff [.inr 1, .inl 6, .inl 34, .inl 35, .inl 36] V0 V → jrk a0 V0 V → jis V (.inr 1) a0 → (2147483648 - i4.toInt).toNat < N → J tS mX1_countForms d 29 [some (.ref a0), some (.int x1), some (.int x2), some (.int i3), some (.int i4)] [] V 0 0 (fun r V => (jPost [.inr 1, .inl 6, .inl 34, .inl 35, .inl 36] V0 rN) r V ∧ jrk a0 V0 V) := by
        intro N
        induction N with
        | zero => intro V i3 i4 hW he hkp ha0  hm; exact absurd hm (Nat.not_lt_zero _)
        | succ N ih =>
          intro V i3 i4 hW he hkp ha0  hm
          have ih29 := ih
          refine J_iload dX1_countForms_29 rfl ?_
          refine J_aload_n dX1_countForms_31 rfl ?_
          obtain ⟨fs32, hO32, hK32⟩ := WT_obj hW id ha0
          obtain ⟨w32, hF32, y32, rfl, hl32, hh32⟩ := hK32.2 5 (.inl ((-2147483648), 2147483647)) rfl
          dsimp only at hl32 hh32
          refine J_get jf_X1_23 dX1_countForms_32 hO32 hF32 ?_
          refine J_callS1 moX0_directions jw_ml_X1_65 jw_st_X0_directions dX1_countForms_35 (w_X0_directions (d - 1) _ _ (by omega)    ) (by omega) (Nat.zero_le _) (Nat.zero_le _) (Nat.le_of_ble_eq_true rfl) (fun r35 V35 h35 => ?_)
          obtain ⟨⟨y35, rfl, hl35, hh35⟩, hE35⟩ := h35
          have hE35 := hE35.symm
          subst hE35
          refine J_icmp_ge (tgt := 72) dX1_countForms_38 (by decide) (fun c38 => ?_) (fun c38 => ?_)
          · refine J_iload_n dX1_countForms_72 rfl ?_
            exact J_ret (r := some (.int _)) dX1_countForms_73 ⟨rfl, _, rfl, rfl⟩ (⟨⟨hW, he, rN_of _⟩, hkp⟩)
          · refine J_aload_n dX1_countForms_41 rfl ?_
            refine J_iload dX1_countForms_42 rfl ?_
            refine Jw_callV1 (q9 := (RX3, TX3, 7)) moX3_lay jw_ml_X1_68 jw_im_X3_lay jw_se_X3_lay ha0 rfl rfl dX1_countForms_44 (w_X3_lay_rk0 (d - 1) _ _ _ (by omega) hW ha0 ) (by omega) (Nat.zero_le _) (Nat.zero_le _) (Nat.le_of_ble_eq_true rfl) (fun r44 V44 h44 => ?_)
            obtain ⟨⟨hW, hx44, hr44⟩, hk44⟩ := h44
            have hkp := hkp.trans he.1 hk44
            have he := he.trans (hx44.sub (jsub_of rfl))
            have ha0 := ha0.mono hx44.1
            obtain ⟨y44, rfl, hl44, hh44⟩ := hr44
            · refine J_if_eq (tgt := 66) dX1_countForms_47 (by decide) (fun c47 => ?_) (fun c47 => ?_)
              · refine J_iinc dX1_countForms_66 rfl j_inc1 rfl (by decide) ?_
                refine J_goto (tgt := 29) dX1_countForms_69 (by decide) ?_
                refine J.mask [true, true, true, true, true] ?_
                exact ih29 _ _ _ hW he hkp ha0  (jdec_up (Int32.not_le.mp c38) (by assumption))
              · refine J_iload_n dX1_countForms_50 rfl ?_
                refine J_aload_n dX1_countForms_51 rfl ?_
                refine J_iload_n dX1_countForms_52 rfl ?_
                refine J_iload_n dX1_countForms_53 rfl ?_
                refine J_iconst (v := 1) dX1_countForms_54 (by decide) ?_
                refine J_iadd dX1_countForms_55 ?_
                refine J_callS3 moX1_countForms jw_ml_X1_72 jw_st_X1_countForms dX1_countForms_56 (IH (d - 1) _ _ _ _ (by omega) hW ha0 (by have h9 := j_add1 (x := x2) (by omega); omega) (by have h9 := j_add1 (x := x2) (by omega); have h8 := jlt.mp c8; have h7 : (7 : Int32).toInt = 7 := rfl; omega) (by have h9 := j_add1 (x := x2) (by omega); have h8 := jlt.mp c8; have h7 : (7 : Int32).toInt = 7 := rfl; omega)) (by omega) (Nat.zero_le _) (Nat.zero_le _) (Nat.le_of_ble_eq_true rfl) (fun r56 V56 h56 => ?_)
                obtain ⟨⟨hW, hx56, hr56⟩, hk56⟩ := h56
                have hkp := hkp.trans he.1 hk56
                have he := he.trans (hx56.sub (jsub_of rfl))
                have ha0 := ha0.mono hx56.1
                obtain ⟨y56, rfl, hl56, hh56⟩ := hr56
                refine J_iadd dX1_countForms_59 ?_
                refine J_istore_n dX1_countForms_60 rfl (by decide) ?_
                refine J_aload_n dX1_countForms_61 rfl ?_
                refine J_iconst (v := 1) dX1_countForms_62 (by decide) ?_
                refine Jw_callV1 (q9 := (RX3, TX3, 7)) moX3_drop jw_ml_X1_76 jw_im_X3_drop jw_se_X3_drop ha0 rfl rfl dX1_countForms_63 (w_X3_drop_rk0 (d - 1) _ _ _ (by omega) hW ha0 (by decide)) (by omega) (Nat.zero_le _) (Nat.zero_le _) (Nat.le_of_ble_eq_true rfl) (fun r63 V63 h63 => ?_)
                obtain ⟨⟨hW, hx63, hr63⟩, hk63⟩ := h63
                have hkp := hkp.trans he.1 hk63
                have he := he.trans (hx63.sub (jsub_of rfl))
                have ha0 := ha0.mono hx63.1
                cases hr63
                · refine J_iinc dX1_countForms_66 rfl j_inc1 rfl (by decide) ?_
                  refine J_goto (tgt := 29) dX1_countForms_69 (by decide) ?_
                  refine J.mask [true, true, true, true, true] ?_
                  exact ih29 _ _ _ hW he hkp ha0  (jdec_up (Int32.not_le.mp c38) (by assumption))
      refine J.mask [true, true, true, true, true] ?_
      exact L29 _ _ _ _ hW he hkp ha0  (Nat.lt_succ_self _)
    · refine J_aload_n dX1_countForms_11 rfl ?_
      refine J_callS1 moX1_isOwnForm jw_ml_X1_61 jw_st_X1_isOwnForm dX1_countForms_12 (w_X1_isOwnForm (d - 1) _ _ (by omega) hW  ha0 ) (by omega) (Nat.zero_le _) (Nat.zero_le _) (Nat.le_of_ble_eq_true rfl) (fun r12 V12 h12 => ?_)
      obtain ⟨⟨y12, rfl, hl12, hh12⟩, hE12⟩ := h12
      have hE12 := hE12.symm
      subst hE12
      refine J_if_eq (tgt := 22) dX1_countForms_15 (by decide) (fun c15 => ?_) (fun c15 => ?_)
      · refine J_iconst (v := 0) dX1_countForms_22 (by decide) ?_
        exact J_ret (r := some (.int _)) dX1_countForms_23 ⟨rfl, _, rfl, rfl⟩ (⟨⟨hW, he, rN_of _⟩, hkp⟩)
      · refine J_iconst (v := 1) dX1_countForms_18 (by decide) ?_
        refine J_goto (tgt := 23) dX1_countForms_19 (by decide) ?_
        exact J_ret (r := some (.int _)) dX1_countForms_23 ⟨rfl, _, rfl, rfl⟩ (⟨⟨hW, he, rN_of _⟩, hkp⟩)
set_option maxRecDepth 100000 in
set_option maxHeartbeats 4000000 in
theorem w_X5_markWalks {tS : jTS} : ∀ (K d : Nat) (V0 : jH) (a0 : Nat) (a1 : Nat) (x2 : Int32) (x3 : Int32), 4 + K ≤ d → WT V0 → jis V0 (.inr 3) a0 → jis V0 (.inr 1) a1 → 0 ≤ x2.toInt → x2.toInt ≤ 6 → (7 - x2.toInt).toNat < K → jTot tS mX5_markWalks d [.ref a0, .ref a1, .int x2, .int x3] V0 0 0 (fun r V => (jPost [.inr 1, .inl 6, .inl 34, .inl 35, .inl 36, .inl 3] V0 rV) r V ∧ jrk a1 V0 V) := by
  intro K
  induction K with
  | zero => intro d V0 a0 a1 x2 x3 hd hW ha0 ha1 hl2 hh2 hrk; exact absurd hrk (Nat.not_lt_zero _)
  | succ K IH =>
  intro d V0 a0 a1 x2 x3 hd hW ha0 ha1 hl2 hh2 hrk
  refine jTot.of_J [some (.ref a0), some (.ref a1), some (.int x2), some (.int x3), none] moX5_markWalks (Nat.le_of_ble_eq_true rfl) rfl ?_
  have he : jeff [.inr 1, .inl 6, .inl 34, .inl 35, .inl 36, .inl 3] V0 V0 := jeff.refl _ _
  have hkp : jrk a1 V0 V0 := jrk.rf
  refine J_iload_n dX5_markWalks_0 rfl ?_
  refine J_aload_n dX5_markWalks_1 rfl ?_
  obtain ⟨fs2, hO2, hK2⟩ := WT_obj hW id ha0
  obtain ⟨w2, hF2, y2, rfl, hl2, hh2⟩ := hK2.2 1 (.inl (0, 6)) rfl
  dsimp only at hl2 hh2
  refine J_get jf_X5_31 dX5_markWalks_2 hO2 hF2 ?_
  refine J_icmp_ge (tgt := 14) dX5_markWalks_5 (by decide) (fun c5 => ?_) (fun c5 => ?_)
  · refine J_iload_n dX5_markWalks_14 rfl ?_
    refine J_if_lt (tgt := 34) dX5_markWalks_15 (by decide) (fun c15 => ?_) (fun c15 => ?_)
    · exact J_ret (r := none) dX5_markWalks_34 ⟨rfl, rfl⟩ (⟨⟨hW, he, rfl⟩, hkp⟩)
    · refine J_iload_n dX5_markWalks_18 rfl ?_
      refine J_aload_n dX5_markWalks_19 rfl ?_
      obtain ⟨w20, hF20, b20, rfl, hb20⟩ := hK2.2 3 (.inr (some (.inl 3))) rfl
      refine J_get jf_X5_43 dX5_markWalks_20 hO2 hF20 ?_
      obtain ⟨n23, f23, hA23, hN23, hM23, hv23⟩ := WT_arrI (r := (-128, 127)) hW id rfl hb20
      refine J_alen (v := Int32.ofNat n23) dX5_markWalks_23 hA23 rfl rfl ?_
      refine J_icmp_ge (tgt := 34) dX5_markWalks_24 (by decide) (fun c24 => ?_) (fun c24 => ?_)
      · exact J_ret (r := none) dX5_markWalks_34 ⟨rfl, rfl⟩ (⟨⟨hW, he, rfl⟩, hkp⟩)
      · refine J_aload_n dX5_markWalks_27 rfl ?_
        refine J_get jf_X5_43 dX5_markWalks_28 hO2 hF20 ?_
        refine J_iload_n dX5_markWalks_31 rfl ?_
        refine J_iconst (v := 1) dX5_markWalks_32 (by decide) ?_
        refine Jw_bast hW id dX5_markWalks_33 hA23 rfl rfl (by first | exact vp_in_g (by assumption) (by assumption) (by assumption) | exact vp_in_g1 (by assumption) (by assumption) (by assumption) | exact vp_in_g2 (by assumption) (by assumption) (by assumption) | exact vp_in_g3 (by assumption) (by assumption) (by assumption) | exact vp_in_n (by omega) (by omega)) (by first | decide | assumption | omega) (by first | decide | assumption | omega) rfl (fun V33 hW hx33 hy33 => ?_)
        have hkp := hkp.trans he.1 (jrk.of hx33 (jdis_of rfl))
        have he := he.trans (hx33.sub (jsub_of rfl))
        have ha0 := ha0.mono hx33.1
        have ha1 := ha1.mono hx33.1
        have hb20 := hb20.mono hx33.1
        have hO2 := hx33.2 _ _ hO2 (jnot_of rfl)
        have hK2 := hK2.mono hx33.1
        exact J_ret (r := none) dX5_markWalks_34 ⟨rfl, rfl⟩ (⟨⟨hW, he, rfl⟩, hkp⟩)
  · refine J_iload_n dX5_markWalks_8 rfl ?_
    refine J_bipush (v := 6) dX5_markWalks_9 (by decide) ?_
    refine J_icmp_lt (tgt := 35) dX5_markWalks_11 (by decide) (fun c11 => ?_) (fun c11 => ?_)
    · refine J_iconst (v := 0) dX5_markWalks_35 (by decide) ?_
      refine J_istore dX5_markWalks_36 rfl (by decide) ?_
      have L38 : ∀ (N : Nat) (V : jH) (i4 : Int32), WT V → jeff [.inr 1, .inl 6, .inl 34, .inl 35, .inl 36, .inl 3] V0 V → jrk a1 V0 V → jis V (.inr 3) a0 → jis V (.inr 1) a1 → (2147483648 - i4.toInt).toNat < N → J tS mX5_markWalks d 38 [some (.ref a0), some (.ref a1), some (.int x2), some (.int x3), some (.int i4)] [] V 0 0 (fun r V => (jPost [.inr 1, .inl 6, .inl 34, .inl 35, .inl 36, .inl 3] V0 rV) r V ∧ jrk a1 V0 V) := by
        intro N
        induction N with
        | zero => intro V i4 hW he hkp ha0 ha1  hm; exact absurd hm (Nat.not_lt_zero _)
        | succ N ih =>
          intro V i4 hW he hkp ha0 ha1  hm
          have ih38 := ih
          refine J_iload dX5_markWalks_38 rfl ?_
          refine J_aload_n dX5_markWalks_40 rfl ?_
          obtain ⟨fs41, hO41, hK41⟩ := WT_obj hW id ha0
          obtain ⟨w41, hF41, y41, rfl, hl41, hh41⟩ := hK41.2 2 (.inl ((-2147483648), 2147483647)) rfl
          dsimp only at hl41 hh41
          refine J_get jf_X5_40 dX5_markWalks_41 hO41 hF41 ?_
          refine J_icmp_ge (tgt := 84) dX5_markWalks_44 (by decide) (fun c44 => ?_) (fun c44 => ?_)
          · exact J_ret (r := none) dX5_markWalks_84 ⟨rfl, rfl⟩ (⟨⟨hW, he, rfl⟩, hkp⟩)
          · refine J_aload_n dX5_markWalks_47 rfl ?_
            refine J_iload dX5_markWalks_48 rfl ?_
            refine Jw_callV1 (q9 := (RX3, TX3, 7)) moX3_lay jw_ml_X5_72 jw_im_X3_lay jw_se_X3_lay ha1 rfl rfl dX5_markWalks_50 (w_X3_lay_rk0 (d - 1) _ _ _ (by omega) hW ha1 ) (by omega) (Nat.zero_le _) (Nat.zero_le _) (Nat.le_of_ble_eq_true rfl) (fun r50 V50 h50 => ?_)
            obtain ⟨⟨hW, hx50, hr50⟩, hk50⟩ := h50
            have hkp := hkp.trans he.1 hk50
            have he := he.trans (hx50.sub (jsub_of rfl))
            have ha0 := ha0.mono hx50.1
            have ha1 := ha1.mono hx50.1
            have hO41 := hx50.2 _ _ hO41 (jnot_of rfl)
            have hK41 := hK41.mono hx50.1
            obtain ⟨y50, rfl, hl50, hh50⟩ := hr50
            · refine J_if_eq (tgt := 78) dX5_markWalks_53 (by decide) (fun c53 => ?_) (fun c53 => ?_)
              · refine J_iinc dX5_markWalks_78 rfl j_inc1 rfl (by decide) ?_
                refine J_goto (tgt := 38) dX5_markWalks_81 (by decide) ?_
                refine J.mask [true, true, true, true, true] ?_
                exact ih38 _ _ hW he hkp ha0 ha1  (jdec_up (Int32.not_le.mp c44) (by assumption))
              · refine J_aload_n dX5_markWalks_56 rfl ?_
                refine J_aload_n dX5_markWalks_57 rfl ?_
                refine J_iload_n dX5_markWalks_58 rfl ?_
                refine J_iconst (v := 1) dX5_markWalks_59 (by decide) ?_
                refine J_iadd dX5_markWalks_60 ?_
                refine J_iload_n dX5_markWalks_61 rfl ?_
                refine J_aload_n dX5_markWalks_62 rfl ?_
                refine J_get jf_X5_40 dX5_markWalks_63 hO41 hF41 ?_
                refine J_imul dX5_markWalks_66 ?_
                refine J_iload dX5_markWalks_67 rfl ?_
                refine J_iadd dX5_markWalks_69 ?_
                refine J_callS4 moX5_markWalks jw_ml_X5_56 jw_st_X5_markWalks dX5_markWalks_70 (IH (d - 1) _ _ _ _ _ (by omega) hW ha0 ha1 (by have h9 := j_add1 (x := x2) (by omega); omega) (by have h9 := j_add1 (x := x2) (by omega); have h8 := jlt.mp c11; have h7 : (6 : Int32).toInt = 6 := rfl; omega) (by have h9 := j_add1 (x := x2) (by omega); have h8 := jlt.mp c11; have h7 : (6 : Int32).toInt = 6 := rfl; omega)) (by omega) (Nat.zero_le _) (Nat.zero_le _) (Nat.le_of_ble_eq_true rfl) (fun r70 V70 h70 => ?_)
                obtain ⟨⟨hW, hx70, hr70⟩, hk70⟩ := h70
                have hkp := hkp.trans he.1 hk70
                have he := he.trans (hx70.sub (jsub_of rfl))
                have ha0 := ha0.mono hx70.1
                have ha1 := ha1.mono hx70.1
                have hO41 := hx70.2 _ _ hO41 (jnot_of rfl)
                have hK41 := hK41.mono hx70.1
                cases hr70
                refine J_aload_n dX5_markWalks_73 rfl ?_
                refine J_iconst (v := 1) dX5_markWalks_74 (by decide) ?_
                refine Jw_callV1 (q9 := (RX3, TX3, 7)) moX3_drop jw_ml_X5_76 jw_im_X3_drop jw_se_X3_drop ha1 rfl rfl dX5_markWalks_75 (w_X3_drop_rk0 (d - 1) _ _ _ (by omega) hW ha1 (by decide)) (by omega) (Nat.zero_le _) (Nat.zero_le _) (Nat.le_of_ble_eq_true rfl) (fun r75 V75 h75 => ?_)
                obtain ⟨⟨hW, hx75, hr75⟩, hk75⟩ := h75
                have hkp := hkp.trans he.1 hk75
                have he := he.trans (hx75.sub (jsub_of rfl))
                have ha0 := ha0.mono hx75.1
                have ha1 := ha1.mono hx75.1
                have hO41 := hx75.2 _ _ hO41 (jnot_of rfl)
                have hK41 := hK41.mono hx75.1
                cases hr75
                · refine J_iinc dX5_markWalks_78 rfl j_inc1 rfl (by decide) ?_
                  refine J_goto (tgt := 38) dX5_markWalks_81 (by decide) ?_
                  refine J.mask [true, true, true, true, true] ?_
                  exact ih38 _ _ hW he hkp ha0 ha1  (jdec_up (Int32.not_le.mp c44) (by assumption))
      refine J.mask [true, true, true, true, true] ?_
      exact L38 _ _ _ hW he hkp ha0 ha1  (Nat.lt_succ_self _)
    · refine J_iload_n dX5_markWalks_14 rfl ?_
      refine J_if_lt (tgt := 34) dX5_markWalks_15 (by decide) (fun c15 => ?_) (fun c15 => ?_)
      · exact J_ret (r := none) dX5_markWalks_34 ⟨rfl, rfl⟩ (⟨⟨hW, he, rfl⟩, hkp⟩)
      · refine J_iload_n dX5_markWalks_18 rfl ?_
        refine J_aload_n dX5_markWalks_19 rfl ?_
        obtain ⟨w20, hF20, b20, rfl, hb20⟩ := hK2.2 3 (.inr (some (.inl 3))) rfl
        refine J_get jf_X5_43 dX5_markWalks_20 hO2 hF20 ?_
        obtain ⟨n23, f23, hA23, hN23, hM23, hv23⟩ := WT_arrI (r := (-128, 127)) hW id rfl hb20
        refine J_alen (v := Int32.ofNat n23) dX5_markWalks_23 hA23 rfl rfl ?_
        refine J_icmp_ge (tgt := 34) dX5_markWalks_24 (by decide) (fun c24 => ?_) (fun c24 => ?_)
        · exact J_ret (r := none) dX5_markWalks_34 ⟨rfl, rfl⟩ (⟨⟨hW, he, rfl⟩, hkp⟩)
        · refine J_aload_n dX5_markWalks_27 rfl ?_
          refine J_get jf_X5_43 dX5_markWalks_28 hO2 hF20 ?_
          refine J_iload_n dX5_markWalks_31 rfl ?_
          refine J_iconst (v := 1) dX5_markWalks_32 (by decide) ?_
          refine Jw_bast hW id dX5_markWalks_33 hA23 rfl rfl (by first | exact vp_in_g (by assumption) (by assumption) (by assumption) | exact vp_in_g1 (by assumption) (by assumption) (by assumption) | exact vp_in_g2 (by assumption) (by assumption) (by assumption) | exact vp_in_g3 (by assumption) (by assumption) (by assumption) | exact vp_in_n (by omega) (by omega)) (by first | decide | assumption | omega) (by first | decide | assumption | omega) rfl (fun V33 hW hx33 hy33 => ?_)
          have hkp := hkp.trans he.1 (jrk.of hx33 (jdis_of rfl))
          have he := he.trans (hx33.sub (jsub_of rfl))
          have ha0 := ha0.mono hx33.1
          have ha1 := ha1.mono hx33.1
          have hb20 := hb20.mono hx33.1
          have hO2 := hx33.2 _ _ hO2 (jnot_of rfl)
          have hK2 := hK2.mono hx33.1
          exact J_ret (r := none) dX5_markWalks_34 ⟨rfl, rfl⟩ (⟨⟨hW, he, rfl⟩, hkp⟩)
set_option maxRecDepth 100000 in
set_option maxHeartbeats 4000000 in
theorem w_X5_countReached {tS : jTS} (d : Nat) (V0 : jH) (a0 : Nat) (a1 : Nat)  (hd : 13 ≤ d) (hW : WT V0) (ha0 : jis V0 (.inr 3) a0) (ha1 : jis V0 (.inr 1) a1)  : jTot tS mX5_countReached d [.ref a0, .ref a1] V0 0 0 (fun r V => (jPost [.inr 3, .inr 1, .inl 6, .inl 34, .inl 35, .inl 36, .inl 3, .inl 10, .inl 11] V0 (rI 0 2147483647)) r V ∧ jrk a1 V0 V) := by
  refine jTot.of_J [some (.ref a0), some (.ref a1), none, none, none] moX5_countReached (Nat.le_of_ble_eq_true rfl) rfl ?_
  have he : jeff [.inr 3, .inr 1, .inl 6, .inl 34, .inl 35, .inl 36, .inl 3, .inl 10, .inl 11] V0 V0 := jeff.refl _ _
  have hkp : jrk a1 V0 V0 := jrk.rf
  refine J_aload_n dX5_countReached_0 rfl ?_
  refine J_aload_n dX5_countReached_1 rfl ?_
  obtain ⟨fs2, hO2, hK2⟩ := WT_obj hW id ha0
  obtain ⟨w2, hF2, y2, rfl, hl2, hh2⟩ := hK2.2 0 (.inl ((-2147483648), 2147483647)) rfl
  dsimp only at hl2 hh2
  refine J_get jf_X5_19 dX5_countReached_2 hO2 hF2 ?_
  refine Jw_callV1 (q9 := (RX3, TX3, 7)) moX3_begin jw_ml_X5_50 jw_im_X3_begin jw_se_X3_begin ha1 rfl rfl dX5_countReached_5 (w_X3_begin_rk0 (d - 1) _ _ _ (by omega) hW ha1 ) (by omega) (Nat.zero_le _) (Nat.zero_le _) (Nat.le_of_ble_eq_true rfl) (fun r5 V5 h5 => ?_)
  obtain ⟨⟨hW, hx5, hr5⟩, hk5⟩ := h5
  have hkp := hkp.trans he.1 hk5
  have he := he.trans (hx5.sub (jsub_of rfl))
  have ha0 := ha0.mono hx5.1
  have ha1 := ha1.mono hx5.1
  have hO2 := hx5.2 _ _ hO2 (jnot_of rfl)
  have hK2 := hK2.mono hx5.1
  cases hr5
  · refine J_aload_n dX5_countReached_8 rfl ?_
    refine J_aload_n dX5_countReached_9 rfl ?_
    refine J_iconst (v := 0) dX5_countReached_10 (by decide) ?_
    refine J_iconst (v := 0) dX5_countReached_11 (by decide) ?_
    refine J_callS4 moX5_markWalks jw_ml_X5_56 jw_st_X5_markWalks dX5_countReached_12 (w_X5_markWalks 8 (d - 1) _ _ _ _ _ (by omega) hW ha0 ha1 (by first | decide | assumption | omega) (by first | decide | assumption | omega) (by decide)) (by omega) (Nat.zero_le _) (Nat.zero_le _) (Nat.le_of_ble_eq_true rfl) (fun r12 V12 h12 => ?_)
    obtain ⟨⟨hW, hx12, hr12⟩, hk12⟩ := h12
    have hkp := hkp.trans he.1 hk12
    have he := he.trans (hx12.sub (jsub_of rfl))
    have ha0 := ha0.mono hx12.1
    have ha1 := ha1.mono hx12.1
    have hO2 := hx12.2 _ _ hO2 (jnot_of rfl)
    have hK2 := hK2.mono hx12.1
    cases hr12
    refine J_aload_n dX5_countReached_15 rfl ?_
    refine J_iconst (v := 0) dX5_countReached_16 (by decide) ?_
    refine Jw_callV1 (q9 := (RX5, TX5, 7)) moX5_arriveAt jw_ml_X5_60 jw_im_X5_arriveAt jw_se_X5_arriveAt ha0 rfl rfl dX5_countReached_17 (w_X5_arriveAt (d - 1) _ _ _ (by omega) hW  ha0 ) (by omega) (Nat.zero_le _) (Nat.zero_le _) (Nat.le_of_ble_eq_true rfl) (fun r17 V17 h17 => ?_)
    obtain ⟨hW, hx17, hr17⟩ := h17
    have hkp := hkp.trans he.1 (jrk.of hx17 (jdis_of rfl))
    have he := he.trans (hx17.sub (jsub_of rfl))
    have ha0 := ha0.mono hx17.1
    have ha1 := ha1.mono hx17.1
    cases hr17
    refine J_iconst (v := 0) dX5_countReached_20 (by decide) ?_
    refine J_istore_n dX5_countReached_21 rfl (by decide) ?_
    have L22 : ∀ (N : Nat) (V : jH) (i2 : Int32), WT V → jeff [.inr 3, .inr 1, .inl 6, .inl 34, .inl 35, .inl 36, .inl 3, .inl 10, .inl 11] V0 V → jrk a1 V0 V → jis V (.inr 3) a0 → jis V (.inr 1) a1 → (0 ≤ i2.toInt) → (2147483648 - i2.toInt).toNat < N → J tS mX5_countReached d 22 [some (.ref a0), some (.ref a1), some (.int i2), none, none] [] V 0 0 (fun r V => (jPost [.inr 3, .inr 1, .inl 6, .inl 34, .inl 35, .inl 36, .inl 3, .inl 10, .inl 11] V0 (rI 0 2147483647)) r V ∧ jrk a1 V0 V) := by
      intro N
      induction N with
      | zero => intro V i2 hW he hkp ha0 ha1 hi2 hm; exact absurd hm (Nat.not_lt_zero _)
      | succ N ih =>
        intro V i2 hW he hkp ha0 ha1 hi2 hm
        have ih22 := ih
        refine J_iload_n dX5_countReached_22 rfl ?_
        refine J_aload_n dX5_countReached_23 rfl ?_
        obtain ⟨fs24, hO24, hK24⟩ := WT_obj hW id ha0
        obtain ⟨w24, hF24, y24, rfl, hl24, hh24⟩ := hK24.2 6 (.inl (0, 2147483647)) rfl
        dsimp only at hl24 hh24
        refine J_get jf_X5_15 dX5_countReached_24 hO24 hF24 ?_
        refine J_icmp_ge (tgt := 103) dX5_countReached_27 (by decide) (fun c27 => ?_) (fun c27 => ?_)
        · refine J_aload_n dX5_countReached_103 rfl ?_
          refine J_get jf_X5_15 dX5_countReached_104 hO24 hF24 ?_
          exact J_ret (r := some (.int _)) dX5_countReached_107 ⟨rfl, _, rfl, rfl⟩ (⟨⟨hW, he, _, rfl, by first | decide | assumption | omega, by first | decide | assumption | omega⟩, hkp⟩)
        · refine J_iload_n dX5_countReached_30 rfl ?_
          refine J_aload_n dX5_countReached_31 rfl ?_
          obtain ⟨w32, hF32, b32, rfl, hb32⟩ := hK24.2 4 (.inr (some (.inl 10))) rfl
          refine J_get jf_X5_47 dX5_countReached_32 hO24 hF32 ?_
          obtain ⟨n35, f35, hA35, hN35, hM35, hv35⟩ := WT_arrI (r := (-2147483648, 2147483647)) hW id rfl hb32
          refine J_alen (v := Int32.ofNat n35) dX5_countReached_35 hA35 rfl rfl ?_
          refine J_icmp_ge (tgt := 103) dX5_countReached_36 (by decide) (fun c36 => ?_) (fun c36 => ?_)
          · refine J_aload_n dX5_countReached_103 rfl ?_
            refine J_get jf_X5_15 dX5_countReached_104 hO24 hF24 ?_
            exact J_ret (r := some (.int _)) dX5_countReached_107 ⟨rfl, _, rfl, rfl⟩ (⟨⟨hW, he, _, rfl, by first | decide | assumption | omega, by first | decide | assumption | omega⟩, hkp⟩)
          · refine J_aload_n dX5_countReached_39 rfl ?_
            refine J_aload_n dX5_countReached_40 rfl ?_
            refine J_get jf_X5_47 dX5_countReached_41 hO24 hF32 ?_
            refine J_iload_n dX5_countReached_44 rfl ?_
            refine Jw_iald dX5_countReached_45 hA35 rfl hv35 (by first | exact vp_in_g (by assumption) (by assumption) (by assumption) | exact vp_in_g1 (by assumption) (by assumption) (by assumption) | exact vp_in_g2 (by assumption) (by assumption) (by assumption) | exact vp_in_g3 (by assumption) (by assumption) (by assumption) | exact vp_in_n (by omega) (by omega)) (fun y45 hl45 hh45 => ?_)
            refine Jw_callV1 (q9 := (RX5, TX5, 7)) moX5_takeApart jw_ml_X5_63 jw_im_X5_takeApart jw_se_X5_takeApart ha0 rfl rfl dX5_countReached_46 (w_X5_takeApart (d - 1) _ _ _ (by omega) hW  ha0 ) (by omega) (Nat.zero_le _) (Nat.zero_le _) (Nat.le_of_ble_eq_true rfl) (fun r46 V46 h46 => ?_)
            obtain ⟨hW, hx46, hr46⟩ := h46
            have hkp := hkp.trans he.1 (jrk.of hx46 (jdis_of rfl))
            have he := he.trans (hx46.sub (jsub_of rfl))
            have ha0 := ha0.mono hx46.1
            have ha1 := ha1.mono hx46.1
            have hb32 := hb32.mono hx46.1
            have hO24 := hx46.2 _ _ hO24 (jnot_of rfl)
            have hK24 := hK24.mono hx46.1
            have hA35 := hx46.2 _ _ hA35 (jnot_of rfl)
            cases hr46
            refine J_iconst (v := 0) dX5_countReached_49 (by decide) ?_
            refine J_istore_n dX5_countReached_50 rfl (by decide) ?_
            have L51 : ∀ (N : Nat) (V : jH) (i3 : Int32), WT V → jeff [.inr 3, .inr 1, .inl 6, .inl 34, .inl 35, .inl 36, .inl 3, .inl 10, .inl 11] V0 V → jrk a1 V0 V → jis V (.inr 3) a0 → jis V (.inr 1) a1 → (2147483648 - i3.toInt).toNat < N → J tS mX5_countReached d 51 [some (.ref a0), some (.ref a1), some (.int i2), some (.int i3), none] [] V 0 0 (fun r V => (jPost [.inr 3, .inr 1, .inl 6, .inl 34, .inl 35, .inl 36, .inl 3, .inl 10, .inl 11] V0 (rI 0 2147483647)) r V ∧ jrk a1 V0 V) := by
              intro N
              induction N with
              | zero => intro V i3 hW he hkp ha0 ha1  hm; exact absurd hm (Nat.not_lt_zero _)
              | succ N ih =>
                intro V i3 hW he hkp ha0 ha1  hm
                have ih51 := ih
                refine J_iload_n dX5_countReached_51 rfl ?_
                refine J_aload_n dX5_countReached_52 rfl ?_
                obtain ⟨fs53, hO53, hK53⟩ := WT_obj hW id ha0
                obtain ⟨w53, hF53, y53, rfl, hl53, hh53⟩ := hK53.2 1 (.inl (0, 6)) rfl
                dsimp only at hl53 hh53
                refine J_get jf_X5_31 dX5_countReached_53 hO53 hF53 ?_
                refine J_icmp_ge (tgt := 97) dX5_countReached_56 (by decide) (fun c56 => ?_) (fun c56 => ?_)
                · refine J_iinc dX5_countReached_97 rfl j_inc1 rfl (by decide) ?_
                  refine J_goto (tgt := 22) dX5_countReached_100 (by decide) ?_
                  refine J.mask [true, true, true, false, false] ?_
                  exact ih22 _ _ hW he hkp ha0 ha1 (by have h8 := j_rng i2; have h9 := jm_up (Int32.not_le.mp c27); omega) (jdec_up (Int32.not_le.mp c27) (by assumption))
                · refine J_iconst (v := 0) dX5_countReached_59 (by decide) ?_
                  refine J_istore dX5_countReached_60 rfl (by decide) ?_
                  have L62 : ∀ (N : Nat) (V : jH) (i4 : Int32), WT V → jeff [.inr 3, .inr 1, .inl 6, .inl 34, .inl 35, .inl 36, .inl 3, .inl 10, .inl 11] V0 V → jrk a1 V0 V → jis V (.inr 3) a0 → jis V (.inr 1) a1 → (2147483648 - i4.toInt).toNat < N → J tS mX5_countReached d 62 [some (.ref a0), some (.ref a1), some (.int i2), some (.int i3), some (.int i4)] [] V 0 0 (fun r V => (jPost [.inr 3, .inr 1, .inl 6, .inl 34, .inl 35, .inl 36, .inl 3, .inl 10, .inl 11] V0 (rI 0 2147483647)) r V ∧ jrk a1 V0 V) := by
                    intro N
                    induction N with
                    | zero => intro V i4 hW he hkp ha0 ha1  hm; exact absurd hm (Nat.not_lt_zero _)
                    | succ N ih =>
                      intro V i4 hW he hkp ha0 ha1  hm
                      have ih62 := ih
                      refine J_iload dX5_countReached_62 rfl ?_
                      refine J_aload_n dX5_countReached_64 rfl ?_
                      obtain ⟨fs65, hO65, hK65⟩ := WT_obj hW id ha0
                      obtain ⟨w65, hF65, y65, rfl, hl65, hh65⟩ := hK65.2 0 (.inl ((-2147483648), 2147483647)) rfl
                      dsimp only at hl65 hh65
                      refine J_get jf_X5_19 dX5_countReached_65 hO65 hF65 ?_
                      refine J_callS1 moX0_turns jw_ml_X5_66 jw_st_X0_turns dX5_countReached_68 (w_X0_turns (d - 1) _ _ (by omega)    ) (by omega) (Nat.zero_le _) (Nat.zero_le _) (Nat.le_of_ble_eq_true rfl) (fun r68 V68 h68 => ?_)
                      obtain ⟨⟨y68, rfl, hl68, hh68⟩, hE68⟩ := h68
                      have hE68 := hE68.symm
                      subst hE68
                      refine J_icmp_ge (tgt := 91) dX5_countReached_71 (by decide) (fun c71 => ?_) (fun c71 => ?_)
                      · refine J_iinc dX5_countReached_91 rfl j_inc1 rfl (by decide) ?_
                        refine J_goto (tgt := 51) dX5_countReached_94 (by decide) ?_
                        refine J.mask [true, true, true, true, false] ?_
                        exact ih51 _ _ hW he hkp ha0 ha1  (jdec_up (Int32.not_le.mp c56) (by assumption))
                      · refine J_aload_n dX5_countReached_74 rfl ?_
                        refine J_aload_n dX5_countReached_75 rfl ?_
                        refine J_iload_n dX5_countReached_76 rfl ?_
                        refine J_iload dX5_countReached_77 rfl ?_
                        refine Jw_callV2 (q9 := (RX5, TX5, 7)) moX5_numberTurned jw_ml_X5_69 jw_im_X5_numberTurned jw_se_X5_numberTurned ha0 rfl rfl dX5_countReached_79 (w_X5_numberTurned (d - 1) _ _ _ _ (by omega) hW  ha0 ) (by omega) (Nat.zero_le _) (Nat.zero_le _) (Nat.le_of_ble_eq_true rfl) (fun r79 V79 h79 => ?_)
                        obtain ⟨⟨y79, rfl, hl79, hh79⟩, hE79⟩ := h79
                        have hE79 := hE79.symm
                        subst hE79
                        refine Jw_callV1 (q9 := (RX5, TX5, 7)) moX5_arriveAt jw_ml_X5_60 jw_im_X5_arriveAt jw_se_X5_arriveAt ha0 rfl rfl dX5_countReached_82 (w_X5_arriveAt (d - 1) _ _ _ (by omega) hW  ha0 ) (by omega) (Nat.zero_le _) (Nat.zero_le _) (Nat.le_of_ble_eq_true rfl) (fun r82 V82 h82 => ?_)
                        obtain ⟨hW, hx82, hr82⟩ := h82
                        have hkp := hkp.trans he.1 (jrk.of hx82 (jdis_of rfl))
                        have he := he.trans (hx82.sub (jsub_of rfl))
                        have ha0 := ha0.mono hx82.1
                        have ha1 := ha1.mono hx82.1
                        cases hr82
                        refine J_iinc dX5_countReached_85 rfl j_inc1 rfl (by decide) ?_
                        refine J_goto (tgt := 62) dX5_countReached_88 (by decide) ?_
                        refine J.mask [true, true, true, true, true] ?_
                        exact ih62 _ _ hW he hkp ha0 ha1  (jdec_up (Int32.not_le.mp c71) (by assumption))
                  refine J.mask [true, true, true, true, true] ?_
                  exact L62 _ _ _ hW he hkp ha0 ha1  (Nat.lt_succ_self _)
            refine J.mask [true, true, true, true, false] ?_
            exact L51 _ _ _ hW he hkp ha0 ha1  (Nat.lt_succ_self _)
    refine J.mask [true, true, true, false, false] ?_
    exact L22 _ _ _ hW he hkp ha0 ha1 (by decide) (Nat.lt_succ_self _)
set_option maxRecDepth 100000 in
set_option maxHeartbeats 8000000 in
theorem w_X0_directions_z {tS : jTS} (d : Nat) (V0 : jH) (x0 : Int32) (hd : 0 ≤ d)   : jTot tS mX0_directions d [.int x0] V0 0 0 (fun r V => (fun r _ => ∃ y : Int32, r = some (.int y) ∧ (3 ≤ y.toInt) ∧ (y.toInt ≤ 6) ∧ (y.toInt = jdir x0.toInt)) r V ∧ V = V0) := by
  refine jTot.of_J [some (.int x0)] moX0_directions (Nat.le_of_ble_eq_true rfl) rfl ?_
  have hrx0 := j_rng x0
  have hjd := jdir_cases x0.toInt
  refine J_iload_n dX0_directions_0 rfl ?_
  refine Jz_if_ne (tgt := 8) jEq.rf dX0_directions_1 (by decide) (fun c1 => ?_) (fun c1 => ?_)
  · refine J_iload_n dX0_directions_8 rfl ?_
    refine Jz_iconst 2 dX0_directions_9 (by decide) (fun y9 he9 => ?_)
    refine Jz_icmp_ne (tgt := 17) jEq.rf he9 dX0_directions_10 (by decide) (fun c10 => ?_) (fun c10 => ?_)
    · refine Jz_bipush 6 dX0_directions_17 (by decide) (fun y17 he17 => ?_)
      exact J_ret (r := some (.int _)) dX0_directions_19 ⟨rfl, _, rfl, rfl⟩ (⟨⟨_, rfl, (by (try simp only [he17.eq, true_and, and_true]) <;> omega), (by (try simp only [he17.eq, true_and, and_true]) <;> omega), (by (try simp only [he17.eq, true_and, and_true]) <;> omega)⟩, rfl⟩)
    · refine Jz_iconst 3 dX0_directions_13 (by decide) (fun y13 he13 => ?_)
      refine J_goto (tgt := 19) dX0_directions_14 (by decide) ?_
      exact J_ret (r := some (.int _)) dX0_directions_19 ⟨rfl, _, rfl, rfl⟩ (⟨⟨_, rfl, (by (try simp only [he13.eq, true_and, and_true]) <;> omega), (by (try simp only [he13.eq, true_and, and_true]) <;> omega), (by (try simp only [he13.eq, true_and, and_true]) <;> omega)⟩, rfl⟩)
  · refine Jz_iconst 4 dX0_directions_4 (by decide) (fun y4 he4 => ?_)
    refine J_goto (tgt := 19) dX0_directions_5 (by decide) ?_
    exact J_ret (r := some (.int _)) dX0_directions_19 ⟨rfl, _, rfl, rfl⟩ (⟨⟨_, rfl, (by (try simp only [he4.eq, true_and, and_true]) <;> omega), (by (try simp only [he4.eq, true_and, and_true]) <;> omega), (by (try simp only [he4.eq, true_and, and_true]) <;> omega)⟩, rfl⟩)
set_option maxRecDepth 100000 in
set_option maxHeartbeats 8000000 in
theorem w_X6_reach_bad {tS : jTS} (d : Nat) (V0 : jH) (a0 : Nat) (x1 : Int32) (x2 : Int32) (hd : 14 ≤ d) (hW : WT V0) (ha0 : jis V0 (.inr 4) a0) (hbad : x1 < 0 ∨ Int32.ofNat 4 ≤ x1 ∨ x2 < 1 ∨ ¬ x2 ≤ 20) : jTot tS mX6_reach d [.ref a0, .int x1, .int x2] V0 0 0 (fun r V => (fun r _ => ∃ y : Int32, r = some (.int y) ∧ ((-2147483648) ≤ y.toInt) ∧ (y.toInt ≤ 2147483647)) r V ∧ V = V0) := by
  refine jTot.of_J [some (.ref a0), some (.int x1), some (.int x2), none, none, none] moX6_reach (Nat.le_of_ble_eq_true rfl) rfl ?_
  have hrx1 := j_rng x1
  have hrx2 := j_rng x2
  have he : jeff [] V0 V0 := jeff.refl _ _
  refine J_aload_n dX6_reach_0 rfl ?_
  refine J_iload_n dX6_reach_1 rfl ?_
  refine J_iload_n dX6_reach_2 rfl ?_
  refine Jz_iconst 1 dX6_reach_3 (by decide) (fun y3 he3 => ?_)
  refine Jw_callV3 (q9 := (RX6, TX6, 7)) moX6_tallyFor jw_ml_X6_149 jw_im_X6_tallyFor jw_se_X6_tallyFor ha0 rfl rfl dX6_reach_4 (w_X6_tallyFor_bad (d - 1) _ _ _ _ _ (by omega) hW ha0 (by rw [(jI_inj.mp (he3.eq.trans rfl) : y3 = 1)]; exact hbad)) (by omega) (Nat.zero_le _) (Nat.zero_le _) (Nat.le_of_ble_eq_true rfl) (fun r4 V4 h4 => ?_)
  obtain ⟨rfl, hE4⟩ := h4
  have hE4 := hE4.symm
  subst hE4
  · refine J_astore_nN dX6_reach_7 rfl (by decide) ?_
    refine J_aload_nN dX6_reach_8 rfl ?_
    refine J_ifnullN (tgt := 23) dX6_reach_9 (by decide) ?_
    refine Jz_bipush (-2) dX6_reach_23 (by decide) (fun y23 he23 => ?_)
    exact J_ret (r := some (.int _)) dX6_reach_25 ⟨rfl, _, rfl, rfl⟩ (⟨⟨_, rfl, (j_rng _).1, (j_rng _).2⟩, rfl⟩)
set_option maxRecDepth 100000 in
set_option maxHeartbeats 8000000 in
theorem w_X6_reach_oldq {tS : jTS} (d : Nat) (V0 : jH) (a0 : Nat) (x1 : Int32) (x2 : Int32) (fs : List Value) (tl : Nat) (f : Nat → Option Nat) (j : Nat) (t : Nat) (ts : List Value) (rc : Nat) (h : Nat → Int32) (hd : 14 ≤ d) (hW : WT V0) (ha0 : jis V0 (.inr 4) a0) (hx : V0 a0 = some (.inr (4, fs))) (h5 : fs[5]? = some (.ref tl)) (htl : V0 tl = some (.inl (5, 4, .inr (.inr (.inr (.inr f)))))) (hg : x1 = nI j) (hj : j < 4) (hb1 : ¬ x1 < 0) (hb2 : ¬ Int32.ofNat 4 ≤ x1) (hb3 : ¬ x2 < 1) (hb4 : x2 ≤ 20) (hf : f j = some t) (ht : V0 t = some (.inr (2, ts))) (h9 : ts[9]? = some (.ref rc)) (hrc : V0 rc = some (.inl (9, 7, .inl h))) (hp0 : 1 ≤ x2.toInt) (hp1 : x2.toInt ≤ 20) (hp2 : x1.toInt = 2 ∨ 6 < x2.toInt ∨ 10000 < jpw (jdir x1.toInt) x2.toInt.toNat ∨ ¬ (h x2.toInt.toNat).toInt = -1) : jTot tS mX6_reach d [.ref a0, .int x1, .int x2] V0 0 0 (fun r V => (fun r _ => ∃ y : Int32, r = some (.int y) ∧ ((-2147483648) ≤ y.toInt) ∧ (y.toInt ≤ 2147483647)) r V ∧ V = V0) := by
  refine jTot.of_J [some (.ref a0), some (.int x1), some (.int x2), none, none, none] moX6_reach (Nat.le_of_ble_eq_true rfl) rfl ?_
  have hrx1 := j_rng x1
  have hrx2 := j_rng x2
  have he : jeff [] V0 V0 := jeff.refl _ _
  have hKx : jokO V0 (jFs 4) fs := hW _ _ id hx
  have htlk : jis V0 (.inl 5) tl := ⟨_, htl, rfl⟩
  have hN4 : (4 : Nat) < 2 ^ 31 := by decide
  have hvt : ∀ (j b : Nat), j < 4 → f j = some b → jis V0 (.inr 2) b := by
    obtain ⟨n9, f9, h91, h92, h93, h94⟩ := WT_arrR hW id rfl htlk
    cases htl.symm.trans h91
    exact h94
  have hjj : ∀ j2 : Nat, x1 = nI j2 → j2 < 4 → j2 = j := fun j2 h1 h2 => by
    have h3 : x1.toNatClampNeg = j2 := by rw [h1]; exact nI_clamp (by omega)
    have h4 : x1.toNatClampNeg = j := by rw [hg]; exact nI_clamp (by omega)
    omega
  clear hN4
  have hbt : jis V0 (.inr 2) t := ⟨_, ht, rfl⟩
  have hKt : jokO V0 (jFs 2) ts := hW _ _ id ht
  have hbrc : jis V0 (.inl 9) rc := ⟨_, hrc, rfl⟩
  obtain ⟨hNrc, hvrc⟩ := WT_rngI (r := (-2147483648, 2147483647)) hW id rfl hrc
  clear hNrc
  have ho : ∀ j2, x1 = nI j2 → j2 < 4 → ∃ t2, f j2 = some t2 := fun j2 h1 h2 => ⟨t, by rw [hjj j2 h1 h2]; exact hf⟩
  refine J_aload_n dX6_reach_0 rfl ?_
  refine J_iload_n dX6_reach_1 rfl ?_
  refine J_iload_n dX6_reach_2 rfl ?_
  refine Jz_iconst 1 dX6_reach_3 (by decide) (fun y3 he3 => ?_)
  refine Jw_callV3 (q9 := (RX6, TX6, 7)) moX6_tallyFor jw_ml_X6_149 jw_im_X6_tallyFor jw_se_X6_tallyFor ha0 rfl rfl dX6_reach_4 (w_X6_tallyFor_old (d - 1) _ _ _ _ _ fs tl f (by omega) hW ha0 hx h5 htl ho hb1 hb2 (by rw [(jI_inj.mp (he3.eq.trans rfl) : y3 = 1)]; exact hb3) hb4) (by omega) (Nat.zero_le _) (Nat.zero_le _) (Nat.le_of_ble_eq_true rfl) (fun r4 V4 h4 => ?_)
  obtain ⟨hr4, hE4⟩ := h4
  have hE4 := hE4.symm
  subst hE4
  obtain ⟨j2, t2, hj2, hg2, ht2, rfl⟩ := hr4
  · have hj3 := hjj j2 hg2 hj2
    subst hj3
    have ht3 := Option.some.inj (hf.symm.trans ht2)
    subst ht3
    refine J_astore_n dX6_reach_7 rfl (by decide) ?_
    refine J_aload_n dX6_reach_8 rfl ?_
    refine J_ifnull dX6_reach_9 ?_
    refine J_iload_n dX6_reach_12 rfl ?_
    refine Jz_iconst 2 dX6_reach_13 (by decide) (fun y13 he13 => ?_)
    refine Jz_icmp_eq (tgt := 23) jEq.rf he13 dX6_reach_14 (by decide) (fun c14 => ?_) (fun c14 => ?_)
    · refine Jz_bipush (-2) dX6_reach_23 (by decide) (fun y23 he23 => ?_)
      exact J_ret (r := some (.int _)) dX6_reach_25 ⟨rfl, _, rfl, rfl⟩ (⟨⟨_, rfl, (j_rng _).1, (j_rng _).2⟩, rfl⟩)
    · refine J_iload_n dX6_reach_17 rfl ?_
      refine Jz_bipush 6 dX6_reach_18 (by decide) (fun y18 he18 => ?_)
      refine Jz_icmp_le (tgt := 26) jEq.rf he18 dX6_reach_20 (by decide) (fun c20 => ?_) (fun c20 => ?_)
      · refine Jz_iconst 1 dX6_reach_26 (by decide) (fun y26 he26 => ?_)
        refine J_istore dX6_reach_27 rfl (by decide) ?_
        refine Jz_iconst 0 dX6_reach_29 (by decide) (fun y29 he29 => ?_)
        refine J_istore dX6_reach_30 rfl (by decide) ?_
        have L32 : ∀ (N : Nat) (i4n32 : Int32) (i5n32 : Int32), (0 ≤ i5n32.toInt ∧ i5n32.toInt ≤ x2.toInt) → (i4n32.toInt = jpw (jdir x1.toInt) i5n32.toInt.toNat) → (300 - i5n32.toInt).toNat < N → J tS mX6_reach d 32 [some (.ref a0), some (.int x1), some (.int x2), some (.ref t), some (.int i4n32), some (.int i5n32)] [] V0 0 0 (fun r V => (fun r _ => ∃ y : Int32, r = some (.int y) ∧ ((-2147483648) ≤ y.toInt) ∧ (y.toInt ≤ 2147483647)) r V ∧ V = V0) := by
          intro N
          induction N with
          | zero => intro i4n32 i5n32  hi5 hpw hm; exact absurd hm (Nat.not_lt_zero _)
          | succ N ih =>
            intro i4n32 i5n32  hi5 hpw hm
            have ih32 := ih
            have hri5 := j_rng i5n32
            refine J_iload dX6_reach_32 rfl ?_
            refine J_iload_n dX6_reach_34 rfl ?_
            refine Jz_icmp_ge (tgt := 53) jEq.rf jEq.rf dX6_reach_35 (by decide) (fun c35 => ?_) (fun c35 => ?_)
            · have hall : i4n32.toInt = jpw (jdir x1.toInt) x2.toInt.toNat := by rw [hpw, show i5n32.toInt.toNat = x2.toInt.toNat by omega]
              refine J_iload dX6_reach_53 rfl ?_
              refine Jz_sipush 10000 dX6_reach_55 (by decide) (fun y55 he55 => ?_)
              refine Jz_icmp_le (tgt := 64) jEq.rf he55 dX6_reach_58 (by decide) (fun c58 => ?_) (fun c58 => ?_)
              · refine J_aload_n dX6_reach_64 rfl ?_
                refine J_get jf_X6_190 dX6_reach_65 ht h9 ?_
                refine J_iload_n dX6_reach_68 rfl ?_
                refine J_callS2 moX6_cell jw_ml_X6_110 jw_st_X6_cell dX6_reach_69 (w_X6_cell_x (d - 1) _ _ _ hrc (by decide) rfl (by omega) (by omega)) (by omega) (Nat.zero_le _) (Nat.zero_le _) (Nat.le_of_ble_eq_true rfl) (fun r69 V69 h69 => ?_)
                obtain ⟨⟨y69, rfl, hf69⟩, hE69⟩ := h69
                have hE69 := hE69.symm
                subst hE69
                · refine Jz_iconst (-1) dX6_reach_72 (by decide) (fun y72 he72 => ?_)
                  refine Jz_icmp_ne (tgt := 102) jEq.rf he72 dX6_reach_73 (by decide) (fun c73 => ?_) (fun c73 => ?_)
                  · refine J_aload_n dX6_reach_102 rfl ?_
                    refine J_get jf_X6_190 dX6_reach_103 ht h9 ?_
                    refine J_iload_n dX6_reach_106 rfl ?_
                    refine J_callS2 moX6_cell jw_ml_X6_110 jw_st_X6_cell dX6_reach_107 (w_X6_cell_x (d - 1) _ _ _ hrc (by decide) rfl (by omega) (by omega)) (by omega) (Nat.zero_le _) (Nat.zero_le _) (Nat.le_of_ble_eq_true rfl) (fun r107 V107 h107 => ?_)
                    obtain ⟨⟨y107, rfl, hf107⟩, hE107⟩ := h107
                    have hE107 := hE107.symm
                    subst hE107
                    · exact J_ret (r := some (.int _)) dX6_reach_110 ⟨rfl, _, rfl, rfl⟩ (⟨⟨_, rfl, (j_rng _).1, (j_rng _).2⟩, rfl⟩)
                  · exact False.elim (by rw [hf69] at hp2; omega)
              · refine Jz_bipush (-5) dX6_reach_61 (by decide) (fun y61 he61 => ?_)
                exact J_ret (r := some (.int _)) dX6_reach_63 ⟨rfl, _, rfl, rfl⟩ (⟨⟨_, rfl, (j_rng _).1, (j_rng _).2⟩, rfl⟩)
            · refine J_iload dX6_reach_38 rfl ?_
              refine J_iload_n dX6_reach_40 rfl ?_
              refine J_callS1 moX0_directions jw_ml_X6_187 jw_st_X0_directions dX6_reach_41 (w_X0_directions_z (d - 1) _ x1 (by omega)   ) (by omega) (Nat.zero_le _) (Nat.zero_le _) (Nat.le_of_ble_eq_true rfl) (fun r41 V41 h41 => ?_)
              obtain ⟨⟨y41, rfl, hl41, hh41, hP41_0⟩, hE41⟩ := h41
              have hE41 := hE41.symm
              subst hE41
              have hz41 : jEq y41.toInt (jdir (x1.toInt)) := hP41_0
              simp only [hP41_0] at hl41 hh41
              clear hP41_0
              have hjd := jdir_cases x1.toInt
              have hq1 : i4n32.toInt * jdir x1.toInt = jpw (jdir x1.toInt) (i5n32.toInt.toNat + 1) := by rw [hpw, Int.mul_comm]; rfl
              have hq2 := jpw_le6 (d := jdir x1.toInt) (by omega) (by omega) (n := i5n32.toInt.toNat + 1) (by omega)
              have hq3 := jpw_pos (d := jdir x1.toInt) (by omega) (i5n32.toInt.toNat + 1)
              refine Jz_imul jEq.rf hz41 dX6_reach_44 (by omega) (by omega) (fun y44 he44 => ?_)
              refine J_istore dX6_reach_45 rfl (by decide) ?_
              refine Jz_iinc 1 dX6_reach_47 rfl rfl (by decide) jEq.rf (by decide) (by omega) (by omega) (fun y47 he47 => ?_)
              refine J_goto (tgt := 32) dX6_reach_50 (by decide) ?_
              refine J.mask [true, true, true, true, true, true] ?_
              exact ih32  y44 y47  (by (try simp only [he44.eq, he47.eq, true_and, and_true]) <;> omega) (by rw [he44.eq, Int.mul_comm, hpw, he47.eq, show (i5n32.toInt + 1).toNat = i5n32.toInt.toNat + 1 by omega]; rfl) (by (try simp only [he44.eq, he47.eq, true_and, and_true]) <;> omega)
        refine J.mask [true, true, true, true, true, true] ?_
        exact L32 _  y26 y29    (by (try simp only [he26.eq, he29.eq, true_and, and_true]) <;> omega) (by rw [he26.eq, he29.eq]; rfl) (Nat.lt_succ_self _)
      · refine Jz_bipush (-2) dX6_reach_23 (by decide) (fun y23 he23 => ?_)
        exact J_ret (r := some (.int _)) dX6_reach_25 ⟨rfl, _, rfl, rfl⟩ (⟨⟨_, rfl, (j_rng _).1, (j_rng _).2⟩, rfl⟩)
set_option maxRecDepth 100000 in
set_option maxHeartbeats 8000000 in
theorem w_X6_reach_olda {tS : jTS} (d : Nat) (V0 : jH) (a0 : Nat) (x1 : Int32) (x2 : Int32) (fs : List Value) (tl : Nat) (f : Nat → Option Nat) (j : Nat) (t : Nat) (ts : List Value) (rc : Nat) (h : Nat → Int32) (hd : 14 ≤ d) (hW : WT V0) (ha0 : jis V0 (.inr 4) a0) (hx : V0 a0 = some (.inr (4, fs))) (h5 : fs[5]? = some (.ref tl)) (htl : V0 tl = some (.inl (5, 4, .inr (.inr (.inr (.inr f)))))) (hg : x1 = nI j) (hj : j < 4) (hb1 : ¬ x1 < 0) (hb2 : ¬ Int32.ofNat 4 ≤ x1) (hb3 : ¬ x2 < 1) (hb4 : x2 ≤ 20) (hf : f j = some t) (ht : V0 t = some (.inr (2, ts))) (h9 : ts[9]? = some (.ref rc)) (hrc : V0 rc = some (.inl (9, 7, .inl h))) (hp0 : 1 ≤ x2.toInt) (hp1 : x2.toInt ≤ 20) (hp2 : ¬ x1.toInt = 2) (hp3 : x2.toInt ≤ 6) (hp4 : jpw (jdir x1.toInt) x2.toInt.toNat ≤ 10000) (hp5 : (h x2.toInt.toNat).toInt = -1) : jTot tS mX6_reach d [.ref a0, .int x1, .int x2] V0 4 20013 (fun r V => (jPost [.inr 3, .inr 1, .inl 6, .inl 34, .inl 35, .inl 36, .inl 3, .inl 10, .inl 11, .inl 9] V0 (fun r _ => ∃ y : Int32, r = some (.int y) ∧ ((-2147483648) ≤ y.toInt) ∧ (y.toInt ≤ 2147483647))) r V ∧ jle9 V0 V ∧ (∃ G : Nat → Int32, V rc = some (.inl (9, 7, .inl G)) ∧ jcn (-1) G 7 = jcn (-1) h 7 + 1) ∧ jrt a0 V0 V) := by
  refine jTot.of_J [some (.ref a0), some (.int x1), some (.int x2), none, none, none] moX6_reach (Nat.le_of_ble_eq_true rfl) rfl ?_
  have hrx1 := j_rng x1
  have hrx2 := j_rng x2
  have he : jeff [.inr 3, .inr 1, .inl 6, .inl 34, .inl 35, .inl 36, .inl 3, .inl 10, .inl 11, .inl 9] V0 V0 := jeff.refl _ _
  have hkr : jrt a0 V0 V0 := jrt.rf
  have hj9 : jle9 V0 V0 := jle9.rf
  have hKx : jokO V0 (jFs 4) fs := hW _ _ id hx
  have htlk : jis V0 (.inl 5) tl := ⟨_, htl, rfl⟩
  have hN4 : (4 : Nat) < 2 ^ 31 := by decide
  have hvt : ∀ (j b : Nat), j < 4 → f j = some b → jis V0 (.inr 2) b := by
    obtain ⟨n9, f9, h91, h92, h93, h94⟩ := WT_arrR hW id rfl htlk
    cases htl.symm.trans h91
    exact h94
  have hjj : ∀ j2 : Nat, x1 = nI j2 → j2 < 4 → j2 = j := fun j2 h1 h2 => by
    have h3 : x1.toNatClampNeg = j2 := by rw [h1]; exact nI_clamp (by omega)
    have h4 : x1.toNatClampNeg = j := by rw [hg]; exact nI_clamp (by omega)
    omega
  clear hN4
  have hbt : jis V0 (.inr 2) t := ⟨_, ht, rfl⟩
  have hKt : jokO V0 (jFs 2) ts := hW _ _ id ht
  have hbrc : jis V0 (.inl 9) rc := ⟨_, hrc, rfl⟩
  obtain ⟨hNrc, hvrc⟩ := WT_rngI (r := (-2147483648, 2147483647)) hW id rfl hrc
  clear hNrc
  have ho : ∀ j2, x1 = nI j2 → j2 < 4 → ∃ t2, f j2 = some t2 := fun j2 h1 h2 => ⟨t, by rw [hjj j2 h1 h2]; exact hf⟩
  refine J_aload_n dX6_reach_0 rfl ?_
  refine J_iload_n dX6_reach_1 rfl ?_
  refine J_iload_n dX6_reach_2 rfl ?_
  refine Jz_iconst 1 dX6_reach_3 (by decide) (fun y3 he3 => ?_)
  refine Jw_callV3 (q9 := (RX6, TX6, 7)) moX6_tallyFor jw_ml_X6_149 jw_im_X6_tallyFor jw_se_X6_tallyFor ha0 rfl rfl dX6_reach_4 (w_X6_tallyFor_old (d - 1) _ _ _ _ _ fs tl f (by omega) hW ha0 hx h5 htl ho hb1 hb2 (by rw [(jI_inj.mp (he3.eq.trans rfl) : y3 = 1)]; exact hb3) hb4) (by omega) (Nat.zero_le _) (Nat.zero_le _) (Nat.le_of_ble_eq_true rfl) (fun r4 V4 h4 => ?_)
  obtain ⟨hr4, hE4⟩ := h4
  have hE4 := hE4.symm
  subst hE4
  obtain ⟨j2, t2, hj2, hg2, ht2, rfl⟩ := hr4
  · have hj3 := hjj j2 hg2 hj2
    subst hj3
    have ht3 := Option.some.inj (hf.symm.trans ht2)
    subst ht3
    refine J_astore_n dX6_reach_7 rfl (by decide) ?_
    refine J_aload_n dX6_reach_8 rfl ?_
    refine J_ifnull dX6_reach_9 ?_
    refine J_iload_n dX6_reach_12 rfl ?_
    refine Jz_iconst 2 dX6_reach_13 (by decide) (fun y13 he13 => ?_)
    refine Jz_icmp_eq (tgt := 23) jEq.rf he13 dX6_reach_14 (by decide) (fun c14 => ?_) (fun c14 => ?_)
    · exact False.elim (by omega)
    · refine J_iload_n dX6_reach_17 rfl ?_
      refine Jz_bipush 6 dX6_reach_18 (by decide) (fun y18 he18 => ?_)
      refine Jz_icmp_le (tgt := 26) jEq.rf he18 dX6_reach_20 (by decide) (fun c20 => ?_) (fun c20 => ?_)
      · refine Jz_iconst 1 dX6_reach_26 (by decide) (fun y26 he26 => ?_)
        refine J_istore dX6_reach_27 rfl (by decide) ?_
        refine Jz_iconst 0 dX6_reach_29 (by decide) (fun y29 he29 => ?_)
        refine J_istore dX6_reach_30 rfl (by decide) ?_
        have L32 : ∀ (N : Nat) (i4n32 : Int32) (i5n32 : Int32), (0 ≤ i5n32.toInt ∧ i5n32.toInt ≤ x2.toInt) → (i4n32.toInt = jpw (jdir x1.toInt) i5n32.toInt.toNat) → (300 - i5n32.toInt).toNat < N → J tS mX6_reach d 32 [some (.ref a0), some (.int x1), some (.int x2), some (.ref t), some (.int i4n32), some (.int i5n32)] [] V0 4 20013 (fun r V => (jPost [.inr 3, .inr 1, .inl 6, .inl 34, .inl 35, .inl 36, .inl 3, .inl 10, .inl 11, .inl 9] V0 (fun r _ => ∃ y : Int32, r = some (.int y) ∧ ((-2147483648) ≤ y.toInt) ∧ (y.toInt ≤ 2147483647))) r V ∧ jle9 V0 V ∧ (∃ G : Nat → Int32, V rc = some (.inl (9, 7, .inl G)) ∧ jcn (-1) G 7 = jcn (-1) h 7 + 1) ∧ jrt a0 V0 V) := by
          intro N
          induction N with
          | zero => intro i4n32 i5n32  hi5 hpw hm; exact absurd hm (Nat.not_lt_zero _)
          | succ N ih =>
            intro i4n32 i5n32  hi5 hpw hm
            have ih32 := ih
            have hri5 := j_rng i5n32
            refine J_iload dX6_reach_32 rfl ?_
            refine J_iload_n dX6_reach_34 rfl ?_
            refine Jz_icmp_ge (tgt := 53) jEq.rf jEq.rf dX6_reach_35 (by decide) (fun c35 => ?_) (fun c35 => ?_)
            · have hall : i4n32.toInt = jpw (jdir x1.toInt) x2.toInt.toNat := by rw [hpw, show i5n32.toInt.toNat = x2.toInt.toNat by omega]
              refine J_iload dX6_reach_53 rfl ?_
              refine Jz_sipush 10000 dX6_reach_55 (by decide) (fun y55 he55 => ?_)
              refine Jz_icmp_le (tgt := 64) jEq.rf he55 dX6_reach_58 (by decide) (fun c58 => ?_) (fun c58 => ?_)
              · refine J_aload_n dX6_reach_64 rfl ?_
                refine J_get jf_X6_190 dX6_reach_65 ht h9 ?_
                refine J_iload_n dX6_reach_68 rfl ?_
                refine J_callS2 moX6_cell jw_ml_X6_110 jw_st_X6_cell dX6_reach_69 (w_X6_cell_x (d - 1) _ _ _ hrc (by decide) rfl (by omega) (by omega)) (by omega) (Nat.zero_le _) (Nat.zero_le _) (Nat.le_of_ble_eq_true rfl) (fun r69 V69 h69 => ?_)
                obtain ⟨⟨y69, rfl, hf69⟩, hE69⟩ := h69
                have hE69 := hE69.symm
                subst hE69
                · refine Jz_iconst (-1) dX6_reach_72 (by decide) (fun y72 he72 => ?_)
                  have hy69 : y69.toInt = -1 := by rw [← hf69]; exact hp5
                  refine Jz_icmp_ne (tgt := 102) jEq.rf he72 dX6_reach_73 (by decide) (fun c73 => (show False by omega).elim) (fun c73 => ?_)
                  refine J_aload_n dX6_reach_76 rfl ?_
                  refine J_get jf_X6_190 dX6_reach_77 ht h9 ?_
                  refine J_iload_n dX6_reach_80 rfl ?_
                  refine Jc_new jn_X6_193 dX6_reach_81 (by decide) (by decide) hW (fun q81 V81 hn81 hQ81 hk81 hW hx81 => ?_)
                  have hkr := hkr.trans he.1 (jrt.of hx81 (jdis_of rfl))
                  have he := he.trans (hx81.sub (jsub_of rfl))
                  have hj9 := hj9.trans (jle9.of hx81 (jnot_of rfl))
                  have ha0 := ha0.mono hx81.1
                  have htlk := htlk.mono hx81.1
                  have hbt := hbt.mono hx81.1
                  have hbrc := hbrc.mono hx81.1
                  have hx := hx81.2 _ _ hx (jnot_of rfl)
                  have hKx := hKx.mono hx81.1
                  have ht := hx81.2 _ _ ht (jnot_of rfl)
                  have hKt := hKt.mono hx81.1
                  have hrc := hx81.2 _ _ hrc (jnot_of rfl)
                  refine J_dup dX6_reach_84 rfl ?_
                  refine J_iload_n dX6_reach_85 rfl ?_
                  refine J_iload_n dX6_reach_86 rfl ?_
                  refine J_iload dX6_reach_87 rfl ?_
                  refine J_callI3 moX5_init rfl rfl jw_ml_X6_195 jw_im_X5_init dX6_reach_89 (w_X5_init (d - 1) _ _ _ _ _ (by omega) hW hQ81) (by omega) (by decide) (by decide) (Nat.le_of_ble_eq_true rfl) (fun r89 V89 h89 => ?_)
                  obtain ⟨rfl, hW, hx89, hj899⟩ := h89
                  have hkr := hkr.trans he.1 (jrt.of hx89 (jdis_of rfl))
                  have he := he.trans (hx89.sub (jsub_of rfl))
                  have hj9 := hj9.trans (jle9.of hx89 (jnot_of rfl))
                  have ha0 := ha0.mono hx89.1
                  have htlk := htlk.mono hx89.1
                  have hbt := hbt.mono hx89.1
                  have hbrc := hbrc.mono hx89.1
                  have hx := hx89.2 _ _ hx (jnot_of rfl)
                  have hKx := hKx.mono hx89.1
                  have ht := hx89.2 _ _ ht (jnot_of rfl)
                  have hKt := hKt.mono hx89.1
                  have hrc := hx89.2 _ _ hrc (jnot_of rfl)
                  refine J_aload_n dX6_reach_92 rfl ?_
                  obtain ⟨w93, hF93, b93, rfl, hb93⟩ := hKx.2 2 (.inr (some (.inr 1))) rfl
                  refine J_get jf_X6_22 dX6_reach_93 hx hF93 ?_
                  refine Jw_callV1 (q9 := (RX5, TX5, 7)) moX5_countReached jw_ml_X6_198 jw_im_X5_countReached jw_se_X5_countReached hj899 rfl rfl dX6_reach_96 (w_X5_countReached (d - 1) _ q81 b93 (by omega) hW hj899 hb93) (by omega) (Nat.zero_le _) (Nat.zero_le _) (Nat.le_of_ble_eq_true rfl) (fun r96 V96 h96 => ?_)
                  obtain ⟨h96, hX96_0⟩ := h96
                  obtain ⟨hW, hx96, hr96⟩ := h96
                  have hkr := hkr.trans he.1 (jrt.call hx hF93 hX96_0)
                  have he := he.trans (hx96.sub (jsub_of rfl))
                  have hj9 := hj9.trans (jle9.of hx96 (jnot_of rfl))
                  have ha0 := ha0.mono hx96.1
                  have htlk := htlk.mono hx96.1
                  have hbt := hbt.mono hx96.1
                  have hbrc := hbrc.mono hx96.1
                  have hb93 := hb93.mono hx96.1
                  have hx := hx96.2 _ _ hx (jnot_of rfl)
                  have hKx := hKx.mono hx96.1
                  have ht := hx96.2 _ _ ht (jnot_of rfl)
                  have hKt := hKt.mono hx96.1
                  have hrc := hx96.2 _ _ hrc (jnot_of rfl)
                  obtain ⟨y96, rfl, hl96, hh96⟩ := hr96
                  refine J_callS3 moX6_put jw_ml_X6_183 jw_st_X6_put dX6_reach_99 (w_X6_put_x (d - 1) _ _ _ _ hW hrc (by omega) (by omega) (by omega)) (by omega) (Nat.zero_le _) (Nat.zero_le _) (Nat.le_of_ble_eq_true rfl) (fun r99 V99 h99 => ?_)
                  obtain ⟨rfl, hW, hx99, hj99, G99, hA99, hp99, hc99⟩ := h99
                  obtain ⟨hN99, hv99⟩ := WT_rngI (r := (-2147483648, 2147483647)) hW id rfl hA99
                  clear hN99
                  have hkr := hkr.trans he.1 (jrt.of hx99 (jdis_of rfl))
                  have he := he.trans (hx99.sub (jsub_of rfl))
                  have hj9 := hj9.trans hj99
                  have ha0 := ha0.mono hx99.1
                  have htlk := htlk.mono hx99.1
                  have hbt := hbt.mono hx99.1
                  have hbrc := hbrc.mono hx99.1
                  have hb93 := hb93.mono hx99.1
                  have hx := hx99.2 _ _ hx (jnot_of rfl)
                  have hKx := hKx.mono hx99.1
                  have ht := hx99.2 _ _ ht (jnot_of rfl)
                  have hKt := hKt.mono hx99.1
                  · refine J_aload_n dX6_reach_102 rfl ?_
                    refine J_get jf_X6_190 dX6_reach_103 ht h9 ?_
                    refine J_iload_n dX6_reach_106 rfl ?_
                    refine J_callS2 moX6_cell jw_ml_X6_110 jw_st_X6_cell dX6_reach_107 (w_X6_cell_x (d - 1) _ _ _ hA99 (by decide) rfl (by omega) (by omega)) (by omega) (Nat.zero_le _) (Nat.zero_le _) (Nat.le_of_ble_eq_true rfl) (fun r107 V107 h107 => ?_)
                    obtain ⟨⟨y107, rfl, hf107⟩, hE107⟩ := h107
                    have hE107 := hE107.symm
                    subst hE107
                    · exact J_ret (r := some (.int _)) dX6_reach_110 ⟨rfl, _, rfl, rfl⟩ (⟨⟨hW, he, ⟨_, rfl, (j_rng _).1, (j_rng _).2⟩⟩, hj9, ⟨G99, hA99, hc99 hp5⟩, hkr⟩)
              · exact False.elim (by omega)
            · refine J_iload dX6_reach_38 rfl ?_
              refine J_iload_n dX6_reach_40 rfl ?_
              refine J_callS1 moX0_directions jw_ml_X6_187 jw_st_X0_directions dX6_reach_41 (w_X0_directions_z (d - 1) _ x1 (by omega)   ) (by omega) (Nat.zero_le _) (Nat.zero_le _) (Nat.le_of_ble_eq_true rfl) (fun r41 V41 h41 => ?_)
              obtain ⟨⟨y41, rfl, hl41, hh41, hP41_0⟩, hE41⟩ := h41
              have hE41 := hE41.symm
              subst hE41
              have hz41 : jEq y41.toInt (jdir (x1.toInt)) := hP41_0
              simp only [hP41_0] at hl41 hh41
              clear hP41_0
              have hjd := jdir_cases x1.toInt
              have hq1 : i4n32.toInt * jdir x1.toInt = jpw (jdir x1.toInt) (i5n32.toInt.toNat + 1) := by rw [hpw, Int.mul_comm]; rfl
              have hq2 := jpw_le6 (d := jdir x1.toInt) (by omega) (by omega) (n := i5n32.toInt.toNat + 1) (by omega)
              have hq3 := jpw_pos (d := jdir x1.toInt) (by omega) (i5n32.toInt.toNat + 1)
              refine Jz_imul jEq.rf hz41 dX6_reach_44 (by omega) (by omega) (fun y44 he44 => ?_)
              refine J_istore dX6_reach_45 rfl (by decide) ?_
              refine Jz_iinc 1 dX6_reach_47 rfl rfl (by decide) jEq.rf (by decide) (by omega) (by omega) (fun y47 he47 => ?_)
              refine J_goto (tgt := 32) dX6_reach_50 (by decide) ?_
              refine J.mask [true, true, true, true, true, true] ?_
              exact ih32  y44 y47  (by (try simp only [he44.eq, he47.eq, true_and, and_true]) <;> omega) (by rw [he44.eq, Int.mul_comm, hpw, he47.eq, show (i5n32.toInt + 1).toNat = i5n32.toInt.toNat + 1 by omega]; rfl) (by (try simp only [he44.eq, he47.eq, true_and, and_true]) <;> omega)
        refine J.mask [true, true, true, true, true, true] ?_
        exact L32 _  y26 y29    (by (try simp only [he26.eq, he29.eq, true_and, and_true]) <;> omega) (by rw [he26.eq, he29.eq]; rfl) (Nat.lt_succ_self _)
      · exact False.elim (by omega)
set_option maxRecDepth 100000 in
set_option maxHeartbeats 8000000 in
theorem w_X6_walk_zold {tS : jTS} (d : Nat) (V0 : jH) (a0 : Nat) (x1 : Int32) (v1 : Int32) (hd : 2 ≤ d) (hW : WT V0) (ha0 : jis V0 (.inr 4) a0) (hf_v1 : jfI V0 a0 4 1 v1) (hp0 : v1.toInt = 16) : jTot tS mX6_walk d [.ref a0, .int x1] V0 0 0 (fun r V => (fun r _ => ∃ y : Int32, r = some (.int y) ∧ ((-2147483648) ≤ y.toInt) ∧ (y.toInt ≤ 2147483647) ∧ ((¬ (0 ≤ x1.toInt ∧ x1.toInt ≤ 3) ∧ y.toInt = -2) ∨ (0 ≤ x1.toInt ∧ x1.toInt ≤ 3 ∧ y.toInt = -4))) r V ∧ V = V0) := by
  refine jTot.of_J [some (.ref a0), some (.int x1), none] moX6_walk (Nat.le_of_ble_eq_true rfl) rfl ?_
  have hrx1 := j_rng x1
  have he : jeff [] V0 V0 := jeff.refl _ _
  obtain ⟨fs_a0, hO_a0, hK_a0⟩ := WT_obj hW id ha0
  have hF_v1 := hf_v1.get hO_a0
  have hrv1 : 0 ≤ v1.toInt ∧ v1.toInt ≤ 16 := jok_rngI hK_a0 rfl hF_v1
  refine J_iload_n dX6_walk_0 rfl ?_
  refine J_callS1 moX0_isGround jw_ml_X6_46 jw_st_X0_isGround dX6_walk_1 (w_X0_isGround_z (d - 1) _ x1 (by omega)   ) (by omega) (Nat.zero_le _) (Nat.zero_le _) (Nat.le_of_ble_eq_true rfl) (fun r1 V1 h1 => ?_)
  obtain ⟨⟨y1, rfl, hl1, hh1, hP1_0⟩, hE1⟩ := h1
  have hE1 := hE1.symm
  subst hE1
  refine Jz_if_ne (tgt := 10) jEq.rf dX6_walk_4 (by decide) (fun c4 => ?_) (fun c4 => ?_)
  · refine J_aload_n dX6_walk_10 rfl ?_
    refine J_get jf_X6_15 dX6_walk_11 hO_a0 hF_v1 ?_
    refine Jz_if_lt (tgt := 29) jEq.rf dX6_walk_14 (by decide) (fun c14 => ?_) (fun c14 => ?_)
    · refine Jz_bipush (-4) dX6_walk_29 (by decide) (fun y29 he29 => ?_)
      exact J_ret (r := some (.int _)) dX6_walk_31 ⟨rfl, _, rfl, rfl⟩ (⟨⟨_, rfl, (j_rng _).1, (j_rng _).2, (by (try simp only [he29.eq, true_and, and_true]) <;> omega)⟩, rfl⟩)
    · refine J_aload_n dX6_walk_17 rfl ?_
      refine J_get jf_X6_15 dX6_walk_18 hO_a0 hF_v1 ?_
      refine J_aload_n dX6_walk_21 rfl ?_
      obtain ⟨w22, hF22, b22, rfl, hb22⟩ := hK_a0.2 0 (.inr (some (.inl 4))) rfl
      refine J_get jf_X6_11 dX6_walk_22 hO_a0 hF22 ?_
      obtain ⟨n25, f25, hA25, hN25, hM25, hv25⟩ := WT_arrR hW id rfl hb22
      obtain rfl := hM25 16 rfl
      clear hN25 hM25
      refine J_alen dX6_walk_25 hA25 rfl rfl ?_
      have he25 : jEq (Int32.ofNat 16).toInt 16 := nI_toInt (by decide)
      generalize Int32.ofNat 16 = y25 at he25 ⊢
      refine Jz_icmp_lt (tgt := 32) jEq.rf he25 dX6_walk_26 (by decide) (fun c26 => ?_) (fun c26 => ?_)
      · exact False.elim (by omega)
      · refine Jz_bipush (-4) dX6_walk_29 (by decide) (fun y29 he29 => ?_)
        exact J_ret (r := some (.int _)) dX6_walk_31 ⟨rfl, _, rfl, rfl⟩ (⟨⟨_, rfl, (j_rng _).1, (j_rng _).2, (by (try simp only [he29.eq, true_and, and_true]) <;> omega)⟩, rfl⟩)
  · refine Jz_bipush (-2) dX6_walk_7 (by decide) (fun y7 he7 => ?_)
    exact J_ret (r := some (.int _)) dX6_walk_9 ⟨rfl, _, rfl, rfl⟩ (⟨⟨_, rfl, (j_rng _).1, (j_rng _).2, (by (try simp only [he7.eq, true_and, and_true]) <;> omega)⟩, rfl⟩)
set_option maxRecDepth 100000 in
set_option maxHeartbeats 8000000 in
theorem w_X2_numberOf_z {tS : jTS} (d : Nat) (V0 : jH) (x0 : Int32) (x1 : Int32) (hd : 0 ≤ d)  (hp0 : 0 ≤ x0.toInt) (hp1 : x0.toInt ≤ 5) (hp2 : 0 ≤ x1.toInt) (hp3 : x1.toInt ≤ 5) : jTot tS mX2_numberOf d [.int x0, .int x1] V0 0 0 (fun r V => (fun r _ => ∃ y : Int32, r = some (.int y) ∧ ((-2147483648) ≤ y.toInt) ∧ (y.toInt ≤ 2147483647) ∧ (y.toInt = 9 + x0.toInt + 8 * x1.toInt)) r V ∧ V = V0) := by
  refine jTot.of_J [some (.int x0), some (.int x1)] moX2_numberOf (Nat.le_of_ble_eq_true rfl) rfl ?_
  have hrx0 := j_rng x0
  have hrx1 := j_rng x1
  refine Jz_bipush 9 dX2_numberOf_0 (by decide) (fun y0 he0 => ?_)
  refine J_iload_n dX2_numberOf_2 rfl ?_
  refine Jz_iadd he0 jEq.rf dX2_numberOf_3 (by omega) (by omega) (fun y3 he3 => ?_)
  refine Jz_bipush 8 dX2_numberOf_4 (by decide) (fun y4 he4 => ?_)
  refine J_iload_n dX2_numberOf_6 rfl ?_
  refine Jz_imul he4 jEq.rf dX2_numberOf_7 (by omega) (by omega) (fun y7 he7 => ?_)
  refine Jz_iadd he3 he7 dX2_numberOf_8 (by omega) (by omega) (fun y8 he8 => ?_)
  exact J_ret (r := some (.int _)) dX2_numberOf_9 ⟨rfl, _, rfl, rfl⟩ (⟨⟨_, rfl, (j_rng _).1, (j_rng _).2, (by (try simp only [he8.eq, true_and, and_true]) <;> omega)⟩, rfl⟩)
set_option maxRecDepth 100000 in
set_option maxHeartbeats 8000000 in
theorem w_X2_bitOf_z {tS : jTS} (d : Nat) (V0 : jH) (x0 : Int32) (x1 : Int32) (hd : 1 ≤ d)  (hp0 : 0 ≤ x0.toInt) (hp1 : x0.toInt ≤ 5) (hp2 : 0 ≤ x1.toInt) (hp3 : x1.toInt ≤ 5) : jTot tS mX2_bitOf d [.int x0, .int x1] V0 0 0 (fun r V => (fun r _ => ∃ y : Int64, r = some (.long y) ∧ (∀ n : Nat, jbt y n = decide ((n : Int) = 9 + x0.toInt + 8 * x1.toInt))) r V ∧ V = V0) := by
  refine jTot.of_J [some (.int x0), some (.int x1)] moX2_bitOf (Nat.le_of_ble_eq_true rfl) rfl ?_
  have hrx0 := j_rng x0
  have hrx1 := j_rng x1
  refine J_lconst (v := 1) dX2_bitOf_0 rfl ?_
  refine J_iload_n dX2_bitOf_1 rfl ?_
  refine J_iload_n dX2_bitOf_2 rfl ?_
  refine J_callS2 moX2_numberOf jw_ml_X2_50 jw_st_X2_numberOf dX2_bitOf_3 (w_X2_numberOf_z (d - 1) _ x0 x1 (by omega)   (by omega) (by omega) (by omega) (by omega)) (by omega) (Nat.zero_le _) (Nat.zero_le _) (Nat.le_of_ble_eq_true rfl) (fun r3 V3 h3 => ?_)
  obtain ⟨⟨y3, rfl, hl3, hh3, hP3_0⟩, hE3⟩ := h3
  have hE3 := hE3.symm
  subst hE3
  clear hl3 hh3
  have hz3 : jEq y3.toInt (9 + (x0.toInt) + 8 * (x1.toInt)) := hP3_0
  clear hP3_0
  refine J_lshl dX2_bitOf_6 rfl ?_
  exact J_ret (r := some (.long _)) dX2_bitOf_7 ⟨rfl, rfl⟩ (⟨⟨_, rfl, (fun n => by rw [jbt_shl (by rw [hz3.eq]; omega) (by rw [hz3.eq]; omega), hz3.eq])⟩, rfl⟩)
set_option maxRecDepth 100000 in
set_option maxHeartbeats 8000000 in
theorem w_X2_lay_z {tS : jTS} (d : Nat) (V0 : jH) {p : Nat → Prop} (a0 : Nat) (x1 : Int32) (x2 : Int32) (hd : 2 ≤ d) (hW : WTx p V0) (hnp : ¬ p a0) (ha0 : jis V0 (.inr 0) a0) (hp0 : 2 ≤ x1.toInt) (hp1 : x1.toInt ≤ 6) (hp2 : 2 ≤ x2.toInt) (hp3 : x2.toInt ≤ 6) : jTot tS mX2_lay d [.ref a0, .int x1, .int x2] V0 0 0 (fun r V => (jPostP p [.inr 0] V0 rV) r V ∧ (∃ op2 : Int64, jfL V a0 0 3 op2 ∧ ∀ n : Nat, jbt op2 n = true ↔ ∃ x y : Nat, ((x : Int) < x1.toInt ∧ (y : Int) < x2.toInt) ∧ n = 9 + x + 8 * y) ∧ (∃ w1 : Int32, jfI V a0 0 1 w1 ∧ (w1.toInt = x1.toInt)) ∧ (∃ h1 : Int32, jfI V a0 0 2 h1 ∧ (h1.toInt = x2.toInt))) := by
  refine jTot.of_J [some (.ref a0), some (.int x1), some (.int x2), none, none] moX2_lay (Nat.le_of_ble_eq_true rfl) rfl ?_
  have hrx1 := j_rng x1
  have hrx2 := j_rng x2
  have he : jeff [.inr 0] V0 V0 := jeff.refl _ _
  refine J_aload_n dX2_lay_0 rfl ?_
  refine J_iload_n dX2_lay_1 rfl ?_
  obtain ⟨fs2o, hO2o, hK2o⟩ := WT_obj hW hnp ha0
  refine Jz_putI hO2o hW hnp rfl jf_X2_15 jt_X2_1 jEq.rf dX2_lay_2 (j_rng _).1 (j_rng _).2 (fun _ _ => ⟨rfl, rfl⟩) (fun V2 fs2 hW hx2 hO2 hS2 hT2 hB2 => ?_)
  have hK2 : jokO _ (jFs 0) fs2 := hW _ _ hnp hO2
  have he := he.trans (hx2.sub (jsub_of rfl))
  have ha0 := ha0.mono hx2.1
  refine J_aload_n dX2_lay_5 rfl ?_
  refine J_iload_n dX2_lay_6 rfl ?_
  refine Jz_putI hO2 hW hnp rfl jf_X2_19 jt_X2_2 jEq.rf dX2_lay_7 (j_rng _).1 (j_rng _).2 (fun _ _ => ⟨rfl, rfl⟩) (fun V7 fs7 hW hx7 hO7 hS7 hT7 hB7 => ?_)
  have hK7 : jokO _ (jFs 0) fs7 := hW _ _ hnp hO7
  have hF7_1 := (hT7 1 (by decide)).trans hS2
  have he := he.trans (hx7.sub (jsub_of rfl))
  have ha0 := ha0.mono hx7.1
  refine J_aload_n dX2_lay_10 rfl ?_
  refine J_lconst (v := 0) dX2_lay_11 rfl ?_
  refine Jz_putL hO7 hW hnp rfl jf_X2_22 jt_X2_3 dX2_lay_12 rfl rfl (fun V12 fs12 hW hx12 hO12 hS12 hT12 hB12 => ?_)
  have hK12 : jokO _ (jFs 0) fs12 := hW _ _ hnp hO12
  have hF12_2 := (hT12 2 (by decide)).trans hS7
  have hF12_1 := (hT12 1 (by decide)).trans hF7_1
  have he := he.trans (hx12.sub (jsub_of rfl))
  have ha0 := ha0.mono hx12.1
  refine Jz_iconst 0 dX2_lay_15 (by decide) (fun y15 he15 => ?_)
  refine J_istore_n dX2_lay_16 rfl (by decide) ?_
  have L17 : ∀ (N : Nat) (V : jH) (i3n17 : Int32) (gs17a0 : List Value) (g3n17 : Int64), WTx p V → jeff [.inr 0] V0 V → (jis V (.inr 0) a0) → (V a0 = some (.inr (0, gs17a0))) → (gs17a0[3]? = some (.long g3n17)) → (gs17a0[2]? = some (.int x2)) → (gs17a0[1]? = some (.int x1)) → (0 ≤ i3n17.toInt ∧ i3n17.toInt ≤ x2.toInt) → (∀ n : Nat, jbt g3n17 n = true ↔ ∃ x y : Nat, ((x : Int) < x1.toInt ∧ (y : Int) < i3n17.toInt) ∧ n = 9 + x + 8 * y) → (300 - i3n17.toInt).toNat < N → J tS mX2_lay d 17 [some (.ref a0), some (.int x1), some (.int x2), some (.int i3n17), none] [] V 0 0 (fun r V => (jPostP p [.inr 0] V0 rV) r V ∧ (∃ op2 : Int64, jfL V a0 0 3 op2 ∧ ∀ n : Nat, jbt op2 n = true ↔ ∃ x y : Nat, ((x : Int) < x1.toInt ∧ (y : Int) < x2.toInt) ∧ n = 9 + x + 8 * y) ∧ (∃ w1 : Int32, jfI V a0 0 1 w1 ∧ (w1.toInt = x1.toInt)) ∧ (∃ h1 : Int32, jfI V a0 0 2 h1 ∧ (h1.toInt = x2.toInt))) := by
    intro N
    induction N with
    | zero => intro V i3n17 gs17a0 g3n17 hW he ha0 hOgs17a0 hFgs17a0_3 hFgs17a0_2 hFgs17a0_1 hi3 hb hm; exact absurd hm (Nat.not_lt_zero _)
    | succ N ih =>
      intro V i3n17 gs17a0 g3n17 hW he ha0 hOgs17a0 hFgs17a0_3 hFgs17a0_2 hFgs17a0_1 hi3 hb hm
      have ih17 := ih
      have hri3 := j_rng i3n17
      have hKgs17a0 : jokO V (jFs 0) gs17a0 := hW _ _ hnp hOgs17a0
      refine J_iload_n dX2_lay_17 rfl ?_
      refine J_aload_n dX2_lay_18 rfl ?_
      refine J_get jf_X2_19 dX2_lay_19 hOgs17a0 hFgs17a0_2 ?_
      refine Jz_icmp_ge (tgt := 64) jEq.rf jEq.rf dX2_lay_22 (by decide) (fun c22 => ?_) (fun c22 => ?_)
      · refine J_aload_n dX2_lay_64 rfl ?_
        refine Jz_iconst 0 dX2_lay_65 (by decide) (fun y65 he65 => ?_)
        refine Jz_putI hOgs17a0 hW hnp rfl jf_X2_35 jt_X2_7 he65 dX2_lay_66 (by omega) (by omega) (fun _ h => ⟨nar_b (by omega) (by omega), fit_b (by omega) (by omega)⟩) (fun V66 fs66 hW hx66 hO66 hS66 hT66 hB66 => ?_)
        have hK66 : jokO _ (jFs 0) fs66 := hW _ _ hnp hO66
        have hF66_3 := (hT66 3 (by decide)).trans hFgs17a0_3
        have hF66_2 := (hT66 2 (by decide)).trans hFgs17a0_2
        have hF66_1 := (hT66 1 (by decide)).trans hFgs17a0_1
        have he := he.trans (hx66.sub (jsub_of rfl))
        have ha0 := ha0.mono hx66.1
        exact J_ret (r := none) dX2_lay_69 ⟨rfl, rfl⟩ (⟨⟨hW, he, rfl⟩, ⟨_, ⟨_, hO66, hF66_3⟩, fun n => (hb n).trans ⟨fun ⟨x, y, q, e⟩ => ⟨x, y, by omega, e⟩, fun ⟨x, y, q, e⟩ => ⟨x, y, by omega, e⟩⟩⟩, ⟨_, ⟨_, hO66, hF66_1⟩, (by omega)⟩, ⟨_, ⟨_, hO66, hF66_2⟩, (by omega)⟩⟩)
      · refine Jz_iconst 0 dX2_lay_25 (by decide) (fun y25 he25 => ?_)
        refine J_istore dX2_lay_26 rfl (by decide) ?_
        have L28 : ∀ (N : Nat) (V : jH) (i4n28 : Int32) (gs28a0 : List Value) (g3n28 : Int64), WTx p V → jeff [.inr 0] V0 V → (jis V (.inr 0) a0) → (V a0 = some (.inr (0, gs28a0))) → (gs28a0[3]? = some (.long g3n28)) → (gs28a0[2]? = some (.int x2)) → (gs28a0[1]? = some (.int x1)) → (0 ≤ i4n28.toInt ∧ i4n28.toInt ≤ x1.toInt) → (∀ n : Nat, jbt g3n28 n = true ↔ ∃ x y : Nat, ((x : Int) < x1.toInt ∧ (y : Int) < i3n17.toInt ∨ (y : Int) = i3n17.toInt ∧ (x : Int) < i4n28.toInt) ∧ n = 9 + x + 8 * y) → (300 - i4n28.toInt).toNat < N → J tS mX2_lay d 28 [some (.ref a0), some (.int x1), some (.int x2), some (.int i3n17), some (.int i4n28)] [] V 0 0 (fun r V => (jPostP p [.inr 0] V0 rV) r V ∧ (∃ op2 : Int64, jfL V a0 0 3 op2 ∧ ∀ n : Nat, jbt op2 n = true ↔ ∃ x y : Nat, ((x : Int) < x1.toInt ∧ (y : Int) < x2.toInt) ∧ n = 9 + x + 8 * y) ∧ (∃ w1 : Int32, jfI V a0 0 1 w1 ∧ (w1.toInt = x1.toInt)) ∧ (∃ h1 : Int32, jfI V a0 0 2 h1 ∧ (h1.toInt = x2.toInt))) := by
          intro N
          induction N with
          | zero => intro V i4n28 gs28a0 g3n28 hW he ha0 hOgs28a0 hFgs28a0_3 hFgs28a0_2 hFgs28a0_1 hi4 hb2 hm; exact absurd hm (Nat.not_lt_zero _)
          | succ N ih =>
            intro V i4n28 gs28a0 g3n28 hW he ha0 hOgs28a0 hFgs28a0_3 hFgs28a0_2 hFgs28a0_1 hi4 hb2 hm
            have ih28 := ih
            have hri4 := j_rng i4n28
            have hKgs28a0 : jokO V (jFs 0) gs28a0 := hW _ _ hnp hOgs28a0
            refine J_iload dX2_lay_28 rfl ?_
            refine J_aload_n dX2_lay_30 rfl ?_
            refine J_get jf_X2_15 dX2_lay_31 hOgs28a0 hFgs28a0_1 ?_
            refine Jz_icmp_ge (tgt := 58) jEq.rf jEq.rf dX2_lay_34 (by decide) (fun c34 => ?_) (fun c34 => ?_)
            · refine Jz_iinc 1 dX2_lay_58 rfl rfl (by decide) jEq.rf (by decide) (by omega) (by omega) (fun y58 he58 => ?_)
              refine J_goto (tgt := 17) dX2_lay_61 (by decide) ?_
              refine J.mask [true, true, true, true, false] ?_
              exact ih17 _ y58 gs28a0 g3n28 hW he ha0 hOgs28a0 hFgs28a0_3 hFgs28a0_2 hFgs28a0_1 (by (try simp only [he58.eq, true_and, and_true]) <;> omega) (fun n => (hb2 n).trans ⟨fun ⟨x, y, q, e⟩ => ⟨x, y, by rw [he58.eq]; omega, e⟩, fun ⟨x, y, q, e⟩ => ⟨x, y, by rw [he58.eq] at q; omega, e⟩⟩) (by (try simp only [he58.eq, true_and, and_true]) <;> omega)
            · refine J_aload_n dX2_lay_37 rfl ?_
              refine J_dup dX2_lay_38 rfl ?_
              refine J_get jf_X2_22 dX2_lay_39 hOgs28a0 hFgs28a0_3 ?_
              refine J_iload dX2_lay_42 rfl ?_
              refine J_iload_n dX2_lay_44 rfl ?_
              refine J_callS2 moX2_bitOf jw_ml_X2_46 jw_st_X2_bitOf dX2_lay_45 (w_X2_bitOf_z (d - 1) _ i4n28 i3n17 (by omega)   (by omega) (by omega) (by omega) (by omega)) (by omega) (Nat.zero_le _) (Nat.zero_le _) (Nat.le_of_ble_eq_true rfl) (fun r45 V45 h45 => ?_)
              obtain ⟨⟨y45, rfl, hP45_0⟩, hE45⟩ := h45
              have hE45 := hE45.symm
              subst hE45
              refine J_lor dX2_lay_48 ?_
              refine Jz_putL hOgs28a0 hW hnp rfl jf_X2_22 jt_X2_3 dX2_lay_49 rfl rfl (fun V49 fs49 hW hx49 hO49 hS49 hT49 hB49 => ?_)
              have hK49 : jokO _ (jFs 0) fs49 := hW _ _ hnp hO49
              have hF49_2 := (hT49 2 (by decide)).trans hFgs28a0_2
              have hF49_1 := (hT49 1 (by decide)).trans hFgs28a0_1
              have he := he.trans (hx49.sub (jsub_of rfl))
              have ha0 := ha0.mono hx49.1
              refine Jz_iinc 1 dX2_lay_52 rfl rfl (by decide) jEq.rf (by decide) (by omega) (by omega) (fun y52 he52 => ?_)
              refine J_goto (tgt := 28) dX2_lay_55 (by decide) ?_
              refine J.mask [true, true, true, true, true] ?_
              exact ih28 _ y52 fs49 (g3n28 ||| y45) hW he ha0 hO49 hS49 hF49_2 hF49_1 (by (try simp only [he52.eq, true_and, and_true]) <;> omega) (fun n => by
   rw [jbt_or, hP45_0 n, Bool.or_eq_true, hb2 n, decide_eq_true_iff, he52.eq]
   constructor
   · rintro (⟨x, y, q, e⟩ | q)
     · exact ⟨x, y, by omega, e⟩
     · exact ⟨i4n28.toInt.toNat, i3n17.toInt.toNat, by omega, by omega⟩
   · rintro ⟨x, y, q, e⟩
     by_cases h9 : (n : Int) = 9 + i4n28.toInt + 8 * i3n17.toInt
     · exact Or.inr h9
     · exact Or.inl ⟨x, y, by omega, e⟩) (by (try simp only [he52.eq, true_and, and_true]) <;> omega)
        refine J.mask [true, true, true, true, true] ?_
        exact L28 _ _ y25 gs17a0 g3n17 hW he ha0 hOgs17a0 hFgs17a0_3 hFgs17a0_2 hFgs17a0_1 (by (try simp only [he25.eq, true_and, and_true]) <;> omega) (fun n => (hb n).trans ⟨fun ⟨x, y, q, e⟩ => ⟨x, y, Or.inl q, e⟩, fun ⟨x, y, q, e⟩ => ⟨x, y, by rw [he25.eq] at q; omega, e⟩⟩) (Nat.lt_succ_self _)
  refine J.mask [true, true, true, true, false] ?_
  exact L17 _ _ y15 fs12 (0 : Int64) hW he ha0 hO12 hS12 hF12_2 hF12_1 (by (try simp only [he15.eq, true_and, and_true]) <;> omega) (fun n => ⟨fun q => absurd q (by rw [jbt_zero]; decide), fun ⟨x, y, q, _⟩ => absurd q.2 (by rw [he15.eq]; omega)⟩) (Nat.lt_succ_self _)
set_option maxRecDepth 100000 in
set_option maxHeartbeats 8000000 in
theorem w_X0_shiftX_z {tS : jTS} (d : Nat) (V0 : jH) (x0 : Int32) (x1 : Int32) (hd : 0 ≤ d)  (hp0 : 0 ≤ x0.toInt) (hp1 : x0.toInt ≤ 3) (hp2 : 0 ≤ x1.toInt) (hp3 : x1.toInt < jdir x0.toInt) : jTot tS mX0_shiftX d [.int x0, .int x1] V0 0 0 (fun r V => (fun r _ => ∃ y : Int32, r = some (.int y) ∧ ((-2147483648) ≤ y.toInt) ∧ (y.toInt ≤ 2147483647) ∧ (y.toInt = jsx x0.toInt x1.toInt)) r V ∧ V = V0) := by
  refine jTot.of_J [some (.int x0), some (.int x1), none] moX0_shiftX (Nat.le_of_ble_eq_true rfl) rfl ?_
  have hrx0 := j_rng x0
  have hrx1 := j_rng x1
  have hjd := jdir_cases x0.toInt
  refine Jz_bipush 6 dX0_shiftX_0 (by decide) (fun y0 he0 => ?_)
  refine J_iload_n dX0_shiftX_2 rfl ?_
  refine Jz_imul he0 jEq.rf dX0_shiftX_3 (by omega) (by omega) (fun y3 he3 => ?_)
  refine J_iload_n dX0_shiftX_4 rfl ?_
  refine Jz_iadd he3 jEq.rf dX0_shiftX_5 (by omega) (by omega) (fun y5 he5 => ?_)
  refine J_istore_n dX0_shiftX_6 rfl (by decide) ?_
  refine J_iload_n dX0_shiftX_7 rfl ?_
  refine Jz_if_lt (tgt := 27) he5 dX0_shiftX_8 (by decide) (fun c8 => ?_) (fun c8 => ?_)
  · exact False.elim (by omega)
  · refine J_iload_n dX0_shiftX_11 rfl ?_
    refine J_gets (k := 0) rfl jw_fl_X0_18 dX0_shiftX_12 ?_
    refine J_tlen (k := 0) (v := Int32.ofNat 24) rfl dX0_shiftX_15 rfl ?_
    have he15 : jEq (Int32.ofNat 24).toInt 24 := nI_toInt (by decide)
    generalize Int32.ofNat 24 = y15 at he15 ⊢
    refine Jz_icmp_ge (tgt := 27) he5 he15 dX0_shiftX_16 (by decide) (fun c16 => ?_) (fun c16 => ?_)
    · exact False.elim (by omega)
    · refine J_gets (k := 0) rfl jw_fl_X0_18 dX0_shiftX_19 ?_
      refine J_iload_n dX0_shiftX_22 rfl ?_
      refine J_ti (k := 0) (v := .int (jSv0.getD y5.toNatClampNeg 0)) rfl rfl dX0_shiftX_23 (vp_in_n (by (try simp only [he5.eq, true_and, and_true]) <;> omega) (by (try simp only [he5.eq, true_and, and_true]) <;> omega)) rfl ?_
      have hz23 : jEq (jSv0.getD y5.toNatClampNeg 0).toInt (jsx x0.toInt x1.toInt) := (jtabx (by omega) (by omega) (by omega) (by omega) he5.eq)
      generalize jSv0.getD y5.toNatClampNeg 0 = y23 at hz23 ⊢
      refine J_goto (tgt := 28) dX0_shiftX_24 (by decide) ?_
      exact J_ret (r := some (.int _)) dX0_shiftX_28 ⟨rfl, _, rfl, rfl⟩ (⟨⟨_, rfl, (j_rng _).1, (j_rng _).2, (by first | ((try simp only [hz23.eq, true_and, and_true]) <;> omega) | ((try simp only [hz23.eq]); unfold jsx; (repeat' split) <;> omega))⟩, rfl⟩)
set_option maxRecDepth 100000 in
set_option maxHeartbeats 8000000 in
theorem w_X0_isEven_z {tS : jTS} (d : Nat) (V0 : jH) (x0 : Int32) (x1 : Int32) (hd : 0 ≤ d)  (hp0 : -1000 ≤ x0.toInt) (hp1 : x0.toInt ≤ 1000) (hp2 : -1000 ≤ x1.toInt) (hp3 : x1.toInt ≤ 1000) : jTot tS mX0_isEven d [.int x0, .int x1] V0 0 0 (fun r V => (fun r _ => ∃ y : Int32, r = some (.int y) ∧ (0 ≤ y.toInt) ∧ (y.toInt ≤ 1) ∧ ((y.toInt = 1 ∧ (x0.toInt + x1.toInt) % 2 = 0) ∨ (y.toInt = 0 ∧ ¬ (x0.toInt + x1.toInt) % 2 = 0))) r V ∧ V = V0) := by
  refine jTot.of_J [some (.int x0), some (.int x1)] moX0_isEven (Nat.le_of_ble_eq_true rfl) rfl ?_
  have hrx0 := j_rng x0
  have hrx1 := j_rng x1
  refine J_iload_n dX0_isEven_0 rfl ?_
  refine J_iload_n dX0_isEven_1 rfl ?_
  refine Jz_iadd jEq.rf jEq.rf dX0_isEven_2 (by omega) (by omega) (fun y2 he2 => ?_)
  refine Jz_iconst 1 dX0_isEven_3 (by decide) (fun y3 he3 => ?_)
  refine J_iand dX0_isEven_4 ?_
  have hz4 : jEq (y2 &&& y3).toInt ((x0.toInt + x1.toInt) % 2) := by rw [show y3 = 1 from jI_inj.mp he3.eq, jand1 y2, he2.eq]; rfl
  generalize y2 &&& y3 = y4 at hz4 ⊢
  refine Jz_if_ne (tgt := 12) hz4 dX0_isEven_5 (by decide) (fun c5 => ?_) (fun c5 => ?_)
  · refine Jz_iconst 0 dX0_isEven_12 (by decide) (fun y12 he12 => ?_)
    exact J_ret (r := some (.int _)) dX0_isEven_13 ⟨rfl, _, rfl, (nar_b (by (try simp only [he12.eq, true_and, and_true]) <;> omega) (by (try simp only [he12.eq, true_and, and_true]) <;> omega))⟩ (⟨⟨_, rfl, (by (try simp only [he12.eq, true_and, and_true]) <;> omega), (by (try simp only [he12.eq, true_and, and_true]) <;> omega), (by (try simp only [he12.eq, true_and, and_true]) <;> omega)⟩, rfl⟩)
  · refine Jz_iconst 1 dX0_isEven_8 (by decide) (fun y8 he8 => ?_)
    refine J_goto (tgt := 13) dX0_isEven_9 (by decide) ?_
    exact J_ret (r := some (.int _)) dX0_isEven_13 ⟨rfl, _, rfl, (nar_b (by (try simp only [he8.eq, true_and, and_true]) <;> omega) (by (try simp only [he8.eq, true_and, and_true]) <;> omega))⟩ (⟨⟨_, rfl, (by (try simp only [he8.eq, true_and, and_true]) <;> omega), (by (try simp only [he8.eq, true_and, and_true]) <;> omega), (by (try simp only [he8.eq, true_and, and_true]) <;> omega)⟩, rfl⟩)
set_option maxRecDepth 100000 in
set_option maxHeartbeats 8000000 in
theorem w_X0_shiftY_z {tS : jTS} (d : Nat) (V0 : jH) (x0 : Int32) (x1 : Int32) (x2 : Int32) (x3 : Int32) (hd : 1 ≤ d)  (hp0 : 0 ≤ x0.toInt) (hp1 : x0.toInt ≤ 3) (hp2 : 0 ≤ x1.toInt) (hp3 : x1.toInt < jdir x0.toInt) (hp4 : -1000 ≤ x2.toInt) (hp5 : x2.toInt ≤ 1000) (hp6 : -1000 ≤ x3.toInt) (hp7 : x3.toInt ≤ 1000) : jTot tS mX0_shiftY d [.int x0, .int x1, .int x2, .int x3] V0 0 0 (fun r V => (fun r _ => ∃ y : Int32, r = some (.int y) ∧ ((-2147483648) ≤ y.toInt) ∧ (y.toInt ≤ 2147483647) ∧ (y.toInt = jsy x0.toInt x1.toInt (x2.toInt + x3.toInt))) r V ∧ V = V0) := by
  refine jTot.of_J [some (.int x0), some (.int x1), some (.int x2), some (.int x3), none] moX0_shiftY (Nat.le_of_ble_eq_true rfl) rfl ?_
  have hrx0 := j_rng x0
  have hrx1 := j_rng x1
  have hrx2 := j_rng x2
  have hrx3 := j_rng x3
  have hjd := jdir_cases x0.toInt
  refine J_iload_n dX0_shiftY_0 rfl ?_
  refine Jz_iconst 2 dX0_shiftY_1 (by decide) (fun y1 he1 => ?_)
  refine Jz_icmp_ne (tgt := 24) jEq.rf he1 dX0_shiftY_2 (by decide) (fun c2 => ?_) (fun c2 => ?_)
  · refine Jz_bipush 6 dX0_shiftY_24 (by decide) (fun y24 he24 => ?_)
    refine J_iload_n dX0_shiftY_26 rfl ?_
    refine Jz_imul he24 jEq.rf dX0_shiftY_27 (by omega) (by omega) (fun y27 he27 => ?_)
    refine J_iload_n dX0_shiftY_28 rfl ?_
    refine Jz_iadd he27 jEq.rf dX0_shiftY_29 (by omega) (by omega) (fun y29 he29 => ?_)
    refine J_istore dX0_shiftY_30 rfl (by decide) ?_
    refine J_iload dX0_shiftY_32 rfl ?_
    refine Jz_if_lt (tgt := 55) he29 dX0_shiftY_34 (by decide) (fun c34 => ?_) (fun c34 => ?_)
    · exact False.elim (by omega)
    · refine J_iload dX0_shiftY_37 rfl ?_
      refine J_gets (k := 1) rfl jw_fl_X0_26 dX0_shiftY_39 ?_
      refine J_tlen (k := 1) (v := Int32.ofNat 24) rfl dX0_shiftY_42 rfl ?_
      have he42 : jEq (Int32.ofNat 24).toInt 24 := nI_toInt (by decide)
      generalize Int32.ofNat 24 = y42 at he42 ⊢
      refine Jz_icmp_ge (tgt := 55) he29 he42 dX0_shiftY_43 (by decide) (fun c43 => ?_) (fun c43 => ?_)
      · exact False.elim (by omega)
      · refine J_gets (k := 1) rfl jw_fl_X0_26 dX0_shiftY_46 ?_
        refine J_iload dX0_shiftY_49 rfl ?_
        refine J_ti (k := 1) (v := .int (jSv1.getD y29.toNatClampNeg 0)) rfl rfl dX0_shiftY_51 (vp_in_n (by (try simp only [he29.eq, true_and, and_true]) <;> omega) (by (try simp only [he29.eq, true_and, and_true]) <;> omega)) rfl ?_
        have hz51 : jEq (jSv1.getD y29.toNatClampNeg 0).toInt (jsy x0.toInt x1.toInt (x2.toInt + x3.toInt)) := (jtaby _ (by omega) (by omega) (by omega) (by omega) he29.eq (by omega))
        generalize jSv1.getD y29.toNatClampNeg 0 = y51 at hz51 ⊢
        refine J_goto (tgt := 56) dX0_shiftY_52 (by decide) ?_
        exact J_ret (r := some (.int _)) dX0_shiftY_56 ⟨rfl, _, rfl, rfl⟩ (⟨⟨_, rfl, (j_rng _).1, (j_rng _).2, (by first | ((try simp only [hz51.eq, true_and, and_true]) <;> omega) | ((try simp only [hz51.eq]); unfold jsy; (repeat' split) <;> omega))⟩, rfl⟩)
  · refine J_iload_n dX0_shiftY_5 rfl ?_
    refine Jz_iconst 2 dX0_shiftY_6 (by decide) (fun y6 he6 => ?_)
    refine Jz_icmp_ne (tgt := 24) jEq.rf he6 dX0_shiftY_7 (by decide) (fun c7 => ?_) (fun c7 => ?_)
    · refine Jz_bipush 6 dX0_shiftY_24 (by decide) (fun y24 he24 => ?_)
      refine J_iload_n dX0_shiftY_26 rfl ?_
      refine Jz_imul he24 jEq.rf dX0_shiftY_27 (by omega) (by omega) (fun y27 he27 => ?_)
      refine J_iload_n dX0_shiftY_28 rfl ?_
      refine Jz_iadd he27 jEq.rf dX0_shiftY_29 (by omega) (by omega) (fun y29 he29 => ?_)
      refine J_istore dX0_shiftY_30 rfl (by decide) ?_
      refine J_iload dX0_shiftY_32 rfl ?_
      refine Jz_if_lt (tgt := 55) he29 dX0_shiftY_34 (by decide) (fun c34 => ?_) (fun c34 => ?_)
      · exact False.elim (by omega)
      · refine J_iload dX0_shiftY_37 rfl ?_
        refine J_gets (k := 1) rfl jw_fl_X0_26 dX0_shiftY_39 ?_
        refine J_tlen (k := 1) (v := Int32.ofNat 24) rfl dX0_shiftY_42 rfl ?_
        have he42 : jEq (Int32.ofNat 24).toInt 24 := nI_toInt (by decide)
        generalize Int32.ofNat 24 = y42 at he42 ⊢
        refine Jz_icmp_ge (tgt := 55) he29 he42 dX0_shiftY_43 (by decide) (fun c43 => ?_) (fun c43 => ?_)
        · exact False.elim (by omega)
        · refine J_gets (k := 1) rfl jw_fl_X0_26 dX0_shiftY_46 ?_
          refine J_iload dX0_shiftY_49 rfl ?_
          refine J_ti (k := 1) (v := .int (jSv1.getD y29.toNatClampNeg 0)) rfl rfl dX0_shiftY_51 (vp_in_n (by (try simp only [he29.eq, true_and, and_true]) <;> omega) (by (try simp only [he29.eq, true_and, and_true]) <;> omega)) rfl ?_
          have hz51 : jEq (jSv1.getD y29.toNatClampNeg 0).toInt (jsy x0.toInt x1.toInt (x2.toInt + x3.toInt)) := (jtaby _ (by omega) (by omega) (by omega) (by omega) he29.eq (by omega))
          generalize jSv1.getD y29.toNatClampNeg 0 = y51 at hz51 ⊢
          refine J_goto (tgt := 56) dX0_shiftY_52 (by decide) ?_
          exact J_ret (r := some (.int _)) dX0_shiftY_56 ⟨rfl, _, rfl, rfl⟩ (⟨⟨_, rfl, (j_rng _).1, (j_rng _).2, (by first | ((try simp only [hz51.eq, true_and, and_true]) <;> omega) | ((try simp only [hz51.eq]); unfold jsy; (repeat' split) <;> omega))⟩, rfl⟩)
    · refine J_iload_n dX0_shiftY_10 rfl ?_
      refine J_iload_n dX0_shiftY_11 rfl ?_
      refine J_callS2 moX0_isEven jw_ml_X0_22 jw_st_X0_isEven dX0_shiftY_12 (w_X0_isEven_z (d - 1) _ x2 x3 (by omega)   (by omega) (by omega) (by omega) (by omega)) (by omega) (Nat.zero_le _) (Nat.zero_le _) (Nat.le_of_ble_eq_true rfl) (fun r12 V12 h12 => ?_)
      obtain ⟨⟨y12, rfl, hl12, hh12, hP12_0⟩, hE12⟩ := h12
      have hE12 := hE12.symm
      subst hE12
      refine Jz_if_eq (tgt := 22) jEq.rf dX0_shiftY_15 (by decide) (fun c15 => ?_) (fun c15 => ?_)
      · refine Jz_iconst (-1) dX0_shiftY_22 (by decide) (fun y22 he22 => ?_)
        exact J_ret (r := some (.int _)) dX0_shiftY_23 ⟨rfl, _, rfl, rfl⟩ (⟨⟨_, rfl, (j_rng _).1, (j_rng _).2, (by first | ((try simp only [he22.eq, true_and, and_true]) <;> omega) | ((try simp only [he22.eq]); unfold jsy; (repeat' split) <;> omega))⟩, rfl⟩)
      · refine Jz_iconst 1 dX0_shiftY_18 (by decide) (fun y18 he18 => ?_)
        refine J_goto (tgt := 23) dX0_shiftY_19 (by decide) ?_
        exact J_ret (r := some (.int _)) dX0_shiftY_23 ⟨rfl, _, rfl, rfl⟩ (⟨⟨_, rfl, (j_rng _).1, (j_rng _).2, (by first | ((try simp only [he18.eq, true_and, and_true]) <;> omega) | ((try simp only [he18.eq]); unfold jsy; (repeat' split) <;> omega))⟩, rfl⟩)
set_option maxRecDepth 100000 in
set_option maxHeartbeats 8000000 in
theorem w_X0_shiftZ_z {tS : jTS} (d : Nat) (V0 : jH) (x0 : Int32) (x1 : Int32) (hd : 0 ≤ d)  (hp0 : 0 ≤ x0.toInt) (hp1 : x0.toInt ≤ 3) (hp2 : 0 ≤ x1.toInt) (hp3 : x1.toInt < jdir x0.toInt) : jTot tS mX0_shiftZ d [.int x0, .int x1] V0 0 0 (fun r V => (fun r _ => ∃ y : Int32, r = some (.int y) ∧ ((-2147483648) ≤ y.toInt) ∧ (y.toInt ≤ 2147483647) ∧ (y.toInt = jsz x0.toInt x1.toInt)) r V ∧ V = V0) := by
  refine jTot.of_J [some (.int x0), some (.int x1)] moX0_shiftZ (Nat.le_of_ble_eq_true rfl) rfl ?_
  have hrx0 := j_rng x0
  have hrx1 := j_rng x1
  have hjd := jdir_cases x0.toInt
  refine J_iload_n dX0_shiftZ_0 rfl ?_
  refine Jz_iconst 3 dX0_shiftZ_1 (by decide) (fun y1 he1 => ?_)
  refine Jz_icmp_eq (tgt := 7) jEq.rf he1 dX0_shiftZ_2 (by decide) (fun c2 => ?_) (fun c2 => ?_)
  · refine J_iload_n dX0_shiftZ_7 rfl ?_
    refine Jz_iconst 2 dX0_shiftZ_8 (by decide) (fun y8 he8 => ?_)
    refine Jz_icmp_ne (tgt := 16) jEq.rf he8 dX0_shiftZ_9 (by decide) (fun c9 => ?_) (fun c9 => ?_)
    · refine J_iload_n dX0_shiftZ_16 rfl ?_
      refine Jz_iconst 5 dX0_shiftZ_17 (by decide) (fun y17 he17 => ?_)
      refine Jz_icmp_ne (tgt := 25) jEq.rf he17 dX0_shiftZ_18 (by decide) (fun c18 => ?_) (fun c18 => ?_)
      · refine Jz_iconst 0 dX0_shiftZ_25 (by decide) (fun y25 he25 => ?_)
        exact J_ret (r := some (.int _)) dX0_shiftZ_26 ⟨rfl, _, rfl, rfl⟩ (⟨⟨_, rfl, (j_rng _).1, (j_rng _).2, (by first | ((try simp only [he25.eq, true_and, and_true]) <;> omega) | ((try simp only [he25.eq]); unfold jsz; (repeat' split) <;> omega))⟩, rfl⟩)
      · refine Jz_iconst (-1) dX0_shiftZ_21 (by decide) (fun y21 he21 => ?_)
        refine J_goto (tgt := 26) dX0_shiftZ_22 (by decide) ?_
        exact J_ret (r := some (.int _)) dX0_shiftZ_26 ⟨rfl, _, rfl, rfl⟩ (⟨⟨_, rfl, (j_rng _).1, (j_rng _).2, (by first | ((try simp only [he21.eq, true_and, and_true]) <;> omega) | ((try simp only [he21.eq]); unfold jsz; (repeat' split) <;> omega))⟩, rfl⟩)
    · refine Jz_iconst 1 dX0_shiftZ_12 (by decide) (fun y12 he12 => ?_)
      refine J_goto (tgt := 26) dX0_shiftZ_13 (by decide) ?_
      exact J_ret (r := some (.int _)) dX0_shiftZ_26 ⟨rfl, _, rfl, rfl⟩ (⟨⟨_, rfl, (j_rng _).1, (j_rng _).2, (by first | ((try simp only [he12.eq, true_and, and_true]) <;> omega) | ((try simp only [he12.eq]); unfold jsz; (repeat' split) <;> omega))⟩, rfl⟩)
  · refine Jz_iconst 0 dX0_shiftZ_5 (by decide) (fun y5 he5 => ?_)
    exact J_ret (r := some (.int _)) dX0_shiftZ_6 ⟨rfl, _, rfl, rfl⟩ (⟨⟨_, rfl, (j_rng _).1, (j_rng _).2, (by first | ((try simp only [he5.eq, true_and, and_true]) <;> omega) | ((try simp only [he5.eq]); unfold jsz; (repeat' split) <;> omega))⟩, rfl⟩)
set_option maxRecDepth 100000 in
set_option maxHeartbeats 8000000 in
theorem w_X6_walk_zbad {tS : jTS} (d : Nat) (V0 : jH) (a0 : Nat) (x1 : Int32) (hd : 2 ≤ d) (hW : WT V0) (ha0 : jis V0 (.inr 4) a0) (hp0 : ¬ (0 ≤ x1.toInt ∧ x1.toInt ≤ 3)) : jTot tS mX6_walk d [.ref a0, .int x1] V0 0 0 (fun r V => (fun r _ => ∃ y : Int32, r = some (.int y) ∧ ((-2147483648) ≤ y.toInt) ∧ (y.toInt ≤ 2147483647) ∧ (y.toInt = -2)) r V ∧ V = V0) := by
  refine jTot.of_J [some (.ref a0), some (.int x1), none] moX6_walk (Nat.le_of_ble_eq_true rfl) rfl ?_
  have hrx1 := j_rng x1
  have he : jeff [] V0 V0 := jeff.refl _ _
  refine J_iload_n dX6_walk_0 rfl ?_
  refine J_callS1 moX0_isGround jw_ml_X6_46 jw_st_X0_isGround dX6_walk_1 (w_X0_isGround_z (d - 1) _ x1 (by omega)   ) (by omega) (Nat.zero_le _) (Nat.zero_le _) (Nat.le_of_ble_eq_true rfl) (fun r1 V1 h1 => ?_)
  obtain ⟨⟨y1, rfl, hl1, hh1, hP1_0⟩, hE1⟩ := h1
  have hE1 := hE1.symm
  subst hE1
  refine Jz_if_ne (tgt := 10) jEq.rf dX6_walk_4 (by decide) (fun c4 => ?_) (fun c4 => ?_)
  · exact False.elim (by omega)
  · refine Jz_bipush (-2) dX6_walk_7 (by decide) (fun y7 he7 => ?_)
    exact J_ret (r := some (.int _)) dX6_walk_9 ⟨rfl, _, rfl, rfl⟩ (⟨⟨_, rfl, (j_rng _).1, (j_rng _).2, (by (try simp only [he7.eq, true_and, and_true]) <;> omega)⟩, rfl⟩)
set_option maxRecDepth 100000 in
set_option maxHeartbeats 4000000 in
theorem w_X2_init {tS : jTS} (d : Nat) (V0 : jH) (p : Nat → Prop) (q : Nat)  (hd : 3 ≤ d) (hW : WTx (fun a => p a ∨ a = q) V0) (hq : V0 q = some (.inr (0, [.null, .int 0, .int 0, .long 0, .int 0, .int 0, .int 0, .int 0, .int 0]))) (hnp : ¬ p q)   : jTot tS mX2_init d [.ref q] V0 1 36 (fun r V => r = none ∧ WTx p V ∧ jeff [.inr 0] V0 V ∧ jis V (.inr 0) q ∧ (jpl0 V q)) := by
  refine jTot.of_J [some (.ref q)] moX2_init (Nat.le_of_ble_eq_true rfl) rfl ?_
  have he : jeff [.inr 0] V0 V0 := jeff.refl _ _
  refine J_aload_n dX2_init_0 rfl ?_
  refine J_objInit jw_ml_X2_5 jw_oi2 jw_oi3 dX2_init_1 (by omega) (Nat.le_of_ble_eq_true rfl) ?_
  refine J_aload_n dX2_init_4 rfl ?_
  refine J_bipush (v := 36) dX2_init_5 (by decide) ?_
  refine Jc_newa (atype := .int) (t := 12) (B := 36) (x := .inl (fun _ => 0)) jw_ac_int rfl (fun _ h => by cases h) (by decide) dX2_init_7 (by decide) (by decide) (by decide) (fun _ _ => rfl) (fun hN => jok_zI rfl (by decide) (by decide) (fun m h => by cases h <;> rfl) hN) (by decide) (by decide) hW (fun b7 V7 hn7 hb7 hk7 hW hx7 => ?_)
  have hz7 := he.1.none hn7
  have he := he.trans (hx7.sub (jsub_of rfl))
  have hq := hk7 _ _ hq
  refine Jc_putF jf_X2_11 jt_X2_0 rfl (fun _ h => by cases h; rfl) dX2_init_9 hq rfl rfl (Nat.le_of_ble_eq_true rfl) (fun _ h => by cases h) hW (fun V9 hq hW hx9 hB9 => ?_)
  have he := he.trans (hx9.sub (jsub_of rfl))
  have hb7 := hb7.mono hx9.1
  refine J_aload_n dX2_init_12 rfl ?_
  refine J_iconst (v := 2) dX2_init_13 (by decide) ?_
  refine Jc_put jf_X2_15 jt_X2_1 dX2_init_14 hq rfl rfl (Nat.le_of_ble_eq_true rfl) (fun _ h => by cases h) hW (fun V14 hq hW hx14 hB14 => ?_)
  have he := he.trans (hx14.sub (jsub_of rfl))
  have hb7 := hb7.mono hx14.1
  refine J_aload_n dX2_init_17 rfl ?_
  refine J_iconst (v := 2) dX2_init_18 (by decide) ?_
  refine Jc_put jf_X2_19 jt_X2_2 dX2_init_19 hq rfl rfl (Nat.le_of_ble_eq_true rfl) (fun _ h => by cases h) hW (fun V19 hq hW hx19 hB19 => ?_)
  have he := he.trans (hx19.sub (jsub_of rfl))
  have hb7 := hb7.mono hx19.1
  refine J_aload_n dX2_init_22 rfl ?_
  refine J_lconst (v := 0) dX2_init_23 rfl ?_
  refine Jc_put jf_X2_22 jt_X2_3 dX2_init_24 hq rfl rfl (Nat.le_of_ble_eq_true rfl) (fun _ h => by cases h) hW (fun V24 hq hW hx24 hB24 => ?_)
  have he := he.trans (hx24.sub (jsub_of rfl))
  have hb7 := hb7.mono hx24.1
  refine J_aload_n dX2_init_27 rfl ?_
  refine J_iconst (v := 0) dX2_init_28 (by decide) ?_
  refine Jc_put jf_X2_26 jt_X2_4 dX2_init_29 hq rfl rfl (Nat.le_of_ble_eq_true rfl) (fun _ h => by cases h) hW (fun V29 hq hW hx29 hB29 => ?_)
  have he := he.trans (hx29.sub (jsub_of rfl))
  have hb7 := hb7.mono hx29.1
  refine J_aload_n dX2_init_32 rfl ?_
  refine J_iconst (v := 0) dX2_init_33 (by decide) ?_
  refine Jc_put jf_X2_29 jt_X2_5 dX2_init_34 hq rfl rfl (Nat.le_of_ble_eq_true rfl) (fun _ h => by cases h) hW (fun V34 hq hW hx34 hB34 => ?_)
  have he := he.trans (hx34.sub (jsub_of rfl))
  have hb7 := hb7.mono hx34.1
  refine J_aload_n dX2_init_37 rfl ?_
  refine J_iconst (v := 0) dX2_init_38 (by decide) ?_
  refine Jc_put jf_X2_32 jt_X2_6 dX2_init_39 hq rfl rfl (Nat.le_of_ble_eq_true rfl) (fun _ h => by cases h) hW (fun V39 hq hW hx39 hB39 => ?_)
  have he := he.trans (hx39.sub (jsub_of rfl))
  have hb7 := hb7.mono hx39.1
  refine J_aload_n dX2_init_42 rfl ?_
  refine J_iconst (v := 0) dX2_init_43 (by decide) ?_
  refine Jc_put jf_X2_35 jt_X2_7 dX2_init_44 hq rfl rfl (Nat.le_of_ble_eq_true rfl) (fun _ h => by cases h) hW (fun V44 hq hW hx44 hB44 => ?_)
  have he := he.trans (hx44.sub (jsub_of rfl))
  have hb7 := hb7.mono hx44.1
  refine J_aload_n dX2_init_47 rfl ?_
  refine J_iconst (v := 0) dX2_init_48 (by decide) ?_
  refine Jc_put jf_X2_39 jt_X2_8 dX2_init_49 hq rfl rfl (Nat.le_of_ble_eq_true rfl) (fun _ h => by cases h) hW (fun V49 hq hW hx49 hB49 => ?_)
  have he := he.trans (hx49.sub (jsub_of rfl))
  have hb7 := hb7.mono hx49.1
  have hW := hW.fin hq (jokO_cons ⟨_, rfl, hb7⟩ (jokO_cons ⟨_, rfl, (j_rng _).1, (j_rng _).2⟩ (jokO_cons ⟨_, rfl, (j_rng _).1, (j_rng _).2⟩ (jokO_cons ⟨_, rfl⟩ (jokO_cons ⟨_, rfl, (j_rng _).1, (j_rng _).2⟩ (jokO_cons ⟨_, rfl, (j_rng _).1, (j_rng _).2⟩ (jokO_cons ⟨_, rfl, (j_rng _).1, (j_rng _).2⟩ (jokO_cons ⟨_, rfl, by first | decide | assumption | omega, by first | decide | assumption | omega⟩ (jokO_cons ⟨_, rfl, by first | decide | assumption | omega, by first | decide | assumption | omega⟩ (jokO_nil))))))))))
  have hq0 : jis _ (.inr 0) q := ⟨_, hq, rfl⟩
  obtain ⟨fsq, hOq, hFq0⟩ : ∃ fs : List Value, V49 q = some (.inr (0, fs)) ∧ fs[0]? = some (.ref b7) := ⟨_, hq, rfl⟩
  have hKq : jokO V49 (jFs 0) fsq := hW _ _ hnp hOq
  refine J_aload_n dX2_init_52 rfl ?_
  refine J_iconst (v := 2) dX2_init_53 (by decide) ?_
  refine J_iconst (v := 2) dX2_init_54 (by decide) ?_
  refine Jw_callV2 (q9 := (RX2, TX2, 9)) moX2_lay jw_ml_X2_42 jw_im_X2_lay jw_se_X2_lay hq0 rfl rfl dX2_init_55 (w_X2_lay_z (d - 1) _ _ _ _ (by omega) hW hnp hq0 (by decide) (by decide) (by decide) (by decide)) (by omega) (Nat.zero_le _) (Nat.zero_le _) (Nat.le_of_ble_eq_true rfl) (fun r55 V55 h55 => ?_)
  obtain ⟨⟨hW, hx55, hr55⟩, ⟨op55, hop55, hbt55⟩, ⟨w55, hw55, hwe55⟩, ⟨z55, hz55, hze55⟩⟩ := h55
  have he := he.trans (hx55.sub (jsub_of rfl))
  have hq0 := hq0.mono hx55.1
  cases hr55
  · exact J_ret (r := none) dX2_init_58 ⟨rfl, rfl⟩ (⟨rfl, hW, he, hq0, ⟨_, _, _, hw55, hz55, hop55, hwe55, hze55, hbt55⟩⟩)
