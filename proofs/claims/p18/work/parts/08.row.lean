set_option maxHeartbeats 4000000 in
theorem w_X6_cell {tS : jTS} (d : Nat) (V0 : jH) {t : Nat} {r : Int × Int} (a : Nat) (x : Int32) (hW : WT V0) (h : jis V0 (.inl t) a) (hc : jAc t = .inl r) (ht : jT[t]? = some .int) : jTot tS mX6_cell d [.ref a, .int x] V0 0 0 (fun r V => rN r V ∧ V = V0) := by
  refine jTot.of_J [some (.ref a), some (.int x)] moX6_cell (Nat.le_of_ble_eq_true rfl) rfl ?_
  obtain ⟨n, f, hA, hN, hM, hv⟩ := WT_arrI hW id hc h
  refine J_aload_n dX6_cell_0 rfl ?_
  refine J_ifnull dX6_cell_1 ?_
  refine J_iload_n dX6_cell_4 rfl ?_
  refine J_if_lt (tgt := 20) dX6_cell_5 (by decide) (fun c5 => ?_) (fun c5 => ?_)
  · refine J_iconst (v := 0) dX6_cell_20 (by decide) ?_
    exact J_ret (r := some (.int _)) dX6_cell_21 ⟨rfl, _, rfl, rfl⟩ ⟨rN_of _, rfl⟩
  · refine J_iload_n dX6_cell_8 rfl ?_
    refine J_aload_n dX6_cell_9 rfl ?_
    refine J_alen (v := Int32.ofNat n) dX6_cell_10 hA ht rfl ?_
    refine J_icmp_ge (tgt := 20) dX6_cell_11 (by decide) (fun c11 => ?_) (fun c11 => ?_)
    · refine J_iconst (v := 0) dX6_cell_20 (by decide) ?_
      exact J_ret (r := some (.int _)) dX6_cell_21 ⟨rfl, _, rfl, rfl⟩ ⟨rN_of _, rfl⟩
    · refine J_aload_n dX6_cell_14 rfl ?_
      refine J_iload_n dX6_cell_15 rfl ?_
      refine J_iald dX6_cell_16 hA ht (by exact vp_in_g (by assumption) (by assumption) (by assumption)) ?_
      refine J_goto (tgt := 21) dX6_cell_17 (by decide) ?_
      exact J_ret (r := some (.int _)) dX6_cell_21 ⟨rfl, _, rfl, rfl⟩ ⟨rN_of _, rfl⟩
set_option maxHeartbeats 4000000 in
theorem w_X6_cell_ {tS : jTS} (d : Nat) (V0 : jH) {t : Nat} (a : Nat) (x : Int32) (hW : WT V0) (h : jis V0 (.inl t) a) (hc : jAc t = .inr none) (ht : jT[t]? = some .long) : jTot tS mX6_cell_ d [.ref a, .int x] V0 0 0 (fun r V => rL r V ∧ V = V0) := by
  refine jTot.of_J [some (.ref a), some (.int x)] moX6_cell_ (Nat.le_of_ble_eq_true rfl) rfl ?_
  obtain ⟨n, f, hA, hN, hM⟩ := WT_arrL hW id hc h
  refine J_aload_n dX6_cell__0 rfl ?_
  refine J_ifnull dX6_cell__1 ?_
  refine J_iload_n dX6_cell__4 rfl ?_
  refine J_if_lt (tgt := 20) dX6_cell__5 (by decide) (fun c5 => ?_) (fun c5 => ?_)
  · refine J_lconst (v := 0) dX6_cell__20 rfl ?_
    exact J_ret (r := some (.long _)) dX6_cell__21 ⟨rfl, rfl⟩ ⟨⟨_, rfl⟩, rfl⟩
  · refine J_iload_n dX6_cell__8 rfl ?_
    refine J_aload_n dX6_cell__9 rfl ?_
    refine J_alen (v := Int32.ofNat n) dX6_cell__10 hA ht rfl ?_
    refine J_icmp_ge (tgt := 20) dX6_cell__11 (by decide) (fun c11 => ?_) (fun c11 => ?_)
    · refine J_lconst (v := 0) dX6_cell__20 rfl ?_
      exact J_ret (r := some (.long _)) dX6_cell__21 ⟨rfl, rfl⟩ ⟨⟨_, rfl⟩, rfl⟩
    · refine J_aload_n dX6_cell__14 rfl ?_
      refine J_iload_n dX6_cell__15 rfl ?_
      refine J_lald dX6_cell__16 hA ht (by exact vp_in_g (by assumption) (by assumption) (by assumption)) ?_
      refine J_goto (tgt := 21) dX6_cell__17 (by decide) ?_
      exact J_ret (r := some (.long _)) dX6_cell__21 ⟨rfl, rfl⟩ ⟨⟨_, rfl⟩, rfl⟩
set_option maxHeartbeats 4000000 in
theorem w_X6_put {tS : jTS} (d : Nat) (V0 : jH) {t : Nat} (a : Nat) (x y : Int32) (hW : WT V0) (h : jis V0 (.inl t) a) (hc : jAc t = .inl (-2147483648, 2147483647)) (ht : jT[t]? = some .int) : jTot tS mX6_put d [.ref a, .int x, .int y] V0 0 0 (jPost [.inl t] V0 rV) := by
  refine jTot.of_J [some (.ref a), some (.int x), some (.int y)] moX6_put (Nat.le_of_ble_eq_true rfl) rfl ?_
  obtain ⟨n, f, hA, hN, hM, hv⟩ := WT_arrI hW id hc h
  refine J_aload_n dX6_put_0 rfl ?_
  refine J_ifnull dX6_put_1 ?_
  refine J_iload_n dX6_put_4 rfl ?_
  refine J_if_lt (tgt := 18) dX6_put_5 (by decide) (fun c5 => ?_) (fun c5 => ?_)
  · exact J_ret (r := none) dX6_put_18 ⟨rfl, rfl⟩ ⟨hW, jeff.refl _ _, rfl⟩
  · refine J_iload_n dX6_put_8 rfl ?_
    refine J_aload_n dX6_put_9 rfl ?_
    refine J_alen (v := Int32.ofNat n) dX6_put_10 hA ht rfl ?_
    refine J_icmp_ge (tgt := 18) dX6_put_11 (by decide) (fun c11 => ?_) (fun c11 => ?_)
    · exact J_ret (r := none) dX6_put_18 ⟨rfl, rfl⟩ ⟨hW, jeff.refl _ _, rfl⟩
    · refine J_aload_n dX6_put_14 rfl ?_
      refine J_iload_n dX6_put_15 rfl ?_
      refine J_iload_n dX6_put_16 rfl ?_
      refine Jw_iast hW id dX6_put_17 hA ht hc (by exact vp_in_g (by assumption) (by assumption) (by assumption)) (j_rng _).1 (j_rng _).2 (fun V1 hW1 hx1 hy1 => ?_)
      exact J_ret (r := none) dX6_put_18 ⟨rfl, rfl⟩ ⟨hW1, hx1, rfl⟩
set_option maxRecDepth 100000 in
set_option maxHeartbeats 4000000 in
theorem w_X3_direction {tS : jTS} (d : Nat) (V0 : jH) (a0 : Nat) (x1 : Int32)  (hd : 1 ≤ d) (hW : WT V0) (ha0 : jis V0 (.inr 1) a0)  : jTot tS mX3_direction d [.ref a0, .int x1] V0 0 0 (fun r V => rN r V ∧ V = V0) := by
  refine jTot.of_J [some (.ref a0), some (.int x1)] moX3_direction (Nat.le_of_ble_eq_true rfl) rfl ?_
  have he : jeff [] V0 V0 := jeff.refl _ _
  refine J_aload_n dX3_direction_0 rfl ?_
  obtain ⟨fs1, hO1, hK1⟩ := WT_obj hW id ha0
  obtain ⟨w1, hF1, b1, rfl, hb1⟩ := hK1.2 1 (.inr (some (.inl 6))) rfl
  refine J_get jf_X3_30 dX3_direction_1 hO1 hF1 ?_
  refine J_iload_n dX3_direction_4 rfl ?_
  refine J_callSN2 moX6_cell (host := "WalkGrounds") (List.mem_of_getElem? (i := 0) rfl) jw_st_X6_cell dX3_direction_5 (w_X6_cell (d - 1) _ _ _ hW hb1 rfl rfl) (by omega) (Nat.zero_le _) (Nat.zero_le _) (Nat.le_of_ble_eq_true rfl) (fun r5 V5 h5 => ?_)
  obtain ⟨⟨y5, rfl, hl5, hh5⟩, hE5⟩ := h5
  have hE5 := hE5.symm
  subst hE5
  exact J_ret (r := some (.int _)) dX3_direction_8 ⟨rfl, _, rfl, rfl⟩ (⟨rN_of _, rfl⟩)
