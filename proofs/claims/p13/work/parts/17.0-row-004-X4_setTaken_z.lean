set_option maxRecDepth 100000 in
set_option maxHeartbeats 8000000 in
theorem w_X4_setTaken_z {tS : jTS} (d : Nat) (V0 : jH) {ln : Nat} (a0 : Nat) (x1 : Int32) (x2 : Int32) (tk : Nat) (TK : Nat → Int32) (hd : 0 ≤ d) (hW : WT V0) (ha0 : jis V0 (.inr 2) a0) (hl2 : 0 ≤ x2.toInt) (hh2 : x2.toInt ≤ 1) (hr_tk : jfR V0 a0 2 3 tk) (ha_TK : V0 tk = some (.inl (2, ln, .inl TK))) (hp0 : 0 ≤ x1.toInt) (hp1 : x1.toInt < (ln : Int)) (hp2 : (ln : Int) ≤ 20000) : jTot tS mX4_setTaken d [.ref a0, .int x1, .int x2] V0 0 0 (fun r V => (jPost [.inl 2] V0 rV) r V ∧ (∃ TK2 : Nat → Int32, V tk = some (.inl (2, ln, .inl TK2)) ∧ TK2 x1.toInt.toNat = x2 ∧ ∀ j : Nat, j ≠ x1.toInt.toNat → TK2 j = TK j) ∧ jfp [tk] V0 V) := by
  refine jTot.of_J [some (.ref a0), some (.int x1), some (.int x2)] moX4_setTaken (Nat.le_of_ble_eq_true rfl) rfl ?_
  have hrx1 := j_rng x1
  have he : jeff [.inl 2] V0 V0 := jeff.refl _ _
  have hfp : jfp [tk] V0 V0 := jfp.rf
  obtain ⟨fs_a0, hO_a0, hK_a0⟩ := WT_obj hW id ha0
  have hF_tk := hr_tk.get hO_a0
  obtain ⟨w_tk, hFq_tk, b_tk, hbq_tk, hb_tk⟩ := hK_a0.2 3 (.inr (some (.inl 2))) rfl
  cases hF_tk.symm.trans (hFq_tk.trans (congrArg some hbq_tk))
  obtain ⟨hN_TK, hv_TK⟩ := WT_rngI (r := (0, 1)) hW id rfl ha_TK
  clear hN_TK
  refine J_iload_n dX4_setTaken_0 rfl ?_
  refine Jz_if_lt (tgt := 20) jEq.rf dX4_setTaken_1 (by decide) (fun c1 => (show False by omega).elim) (fun c1 => ?_)
  refine J_iload_n dX4_setTaken_4 rfl ?_
  refine J_aload_n dX4_setTaken_5 rfl ?_
  refine J_get jf_X4_54 dX4_setTaken_6 hO_a0 hF_tk ?_
  refine J_alen dX4_setTaken_9 ha_TK rfl rfl ?_
  have he9 : jEq (Int32.ofNat ln).toInt ln := nI_toInt (by omega)
  generalize Int32.ofNat ln = y9 at he9 ⊢
  refine Jz_icmp_ge (tgt := 20) jEq.rf he9 dX4_setTaken_10 (by decide) (fun c10 => (show False by omega).elim) (fun c10 => ?_)
  refine J_aload_n dX4_setTaken_13 rfl ?_
  refine J_get jf_X4_54 dX4_setTaken_14 hO_a0 hF_tk ?_
  refine J_iload_n dX4_setTaken_17 rfl ?_
  refine J_iload_n dX4_setTaken_18 rfl ?_
  refine Jz_zastB (r := (0, 1)) jEq.rf jEq.rf hW id dX4_setTaken_19 ha_TK rfl rfl (by omega) (by omega) (by omega) (by omega) (fun _ h => vp_nar_b (by omega) (by omega)) (fun V19 G19 hW hx19 hA19 hp19 ho19 hB19 => ?_)
  obtain ⟨hN19, hv19⟩ := WT_rngI (r := (0, 1)) hW id rfl hA19
  clear hN19
  have he := he.trans (hx19.sub (jsub_of rfl))
  have hfp := hfp.trans (jfp.one hB19 List.mem_cons_self)
  have ha0 := ha0.mono hx19.1
  have hb_tk := hb_tk.mono hx19.1
  have hO_a0 := hx19.2 _ _ hO_a0 (jnot_of rfl)
  have hK_a0 := hK_a0.mono hx19.1
  exact J_ret (r := none) dX4_setTaken_20 ⟨rfl, rfl⟩ (⟨⟨hW, he, rfl⟩, ⟨G19, hA19, hp19, ho19⟩, hfp⟩)
