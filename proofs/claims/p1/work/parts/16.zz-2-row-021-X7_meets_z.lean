set_option maxRecDepth 100000 in
set_option maxHeartbeats 8000000 in
theorem w_X7_meets_z {tS : jTS} (d : Nat) (V0 : jH) (a0 : Nat) (x1 : Int32) (qd : Int32) (rb : Nat) (qq : Nat) (R : Nat) (L : List Nat) (pw : Nat → Prop) (MT : Nat → Int32) (QU : Nat → Int32) (hd : 0 ≤ d) (hW : WT V0) (ha0 : jis V0 (.inr 5) a0) (hf_qd : jfI V0 a0 5 22 qd) (hr_rb : jfR V0 a0 5 20 rb) (hr_qq : jfR V0 a0 5 21 qq) (ha_MT : V0 rb = some (.inl (42, 10000, .inl MT))) (ha_QU : V0 qq = some (.inl (29, 10000, .inl QU))) (hp0 : 0 ≤ x1.toInt) (hp1 : x1.toInt < (R : Int)) (hp2 : R ≤ 10000) (hp3 : jrr9 R MT QU qd.toInt L) (hp4 : pw x1.toInt.toNat) : jTot tS mX7_meets d [.ref a0, .int x1] V0 0 0 (fun r V => (jPost [.inl 42, .inl 29, .inr 5] V0 rV) r V ∧ (∃ (MT2 QU2 : Nat → Int32) (q2 : Int32), V rb = some (.inl (42, 10000, .inl MT2)) ∧ V qq = some (.inl (29, 10000, .inl QU2)) ∧ jfI V a0 5 22 q2 ∧ jrr9 R MT2 QU2 q2.toInt (jadd pw L x1.toInt.toNat)) ∧ jkc 5 [0, 23, 24, 26, 27, 28] V0 V) := by
  refine jTot.of_J [some (.ref a0), some (.int x1)] moX7_meets (Nat.le_of_ble_eq_true rfl) rfl ?_
  have hrx1 := j_rng x1
  have he : jeff [.inl 42, .inl 29, .inr 5] V0 V0 := jeff.refl _ _
  have hkp : jkc 5 [0, 23, 24, 26, 27, 28] V0 V0 := jkc.rf
  obtain ⟨fs_a0, hO_a0, hK_a0⟩ := WT_obj hW id ha0
  have hF_qd := hf_qd.get hO_a0
  have hrqd : (-2147483648) ≤ qd.toInt ∧ qd.toInt ≤ 2147483647 := jok_rngI hK_a0 rfl hF_qd
  have hF_rb := hr_rb.get hO_a0
  obtain ⟨w_rb, hFq_rb, b_rb, hbq_rb, hb_rb⟩ := hK_a0.2 20 (.inr (some (.inl 42))) rfl
  cases hF_rb.symm.trans (hFq_rb.trans (congrArg some hbq_rb))
  have hF_qq := hr_qq.get hO_a0
  obtain ⟨w_qq, hFq_qq, b_qq, hbq_qq, hb_qq⟩ := hK_a0.2 21 (.inr (some (.inl 29))) rfl
  cases hF_qq.symm.trans (hFq_qq.trans (congrArg some hbq_qq))
  obtain ⟨hN_MT, hv_MT⟩ := WT_rngI (r := (0, 1)) hW id rfl ha_MT
  clear hN_MT
  obtain ⟨hN_QU, hv_QU⟩ := WT_rngI (r := (0, 9999)) hW id rfl ha_QU
  clear hN_QU
  refine J_aload_n dX7_meets_0 rfl ?_
  refine J_get jf_X7_67 dX7_meets_1 hO_a0 hF_rb ?_
  refine J_iload_n dX7_meets_4 rfl ?_
  refine Jz_zald (r := (0, 1)) jEq.rf dX7_meets_5 ha_MT rfl hv_MT (by omega) (by omega) (fun y5 hf5 hl5 hh5 => ?_)
  dsimp only at hl5 hh5
  have e5 : (MT x1.toInt.toNat).toInt = y5.toInt := by rw [hf5]
  have hln := hp3.len
  refine Jz_if_ne (tgt := 36) jEq.rf dX7_meets_6 (by decide) (fun c6 => ?_) (fun c6 => ?_)
  · have hnz : ¬ (MT x1.toInt.toNat).toInt = 0 := by rw [e5]; omega
    exact J_ret (r := none) dX7_meets_36 ⟨rfl, rfl⟩ (⟨⟨hW, he, rfl⟩, ⟨MT, QU, qd, ha_MT, ha_QU, ⟨_, hO_a0, hF_qd⟩, hp3.same (by omega) (Or.inl hnz)⟩, hkp⟩)
  · have hz9 : (MT x1.toInt.toNat).toInt = 0 := by rw [e5]; omega
    have hrm := hp3.room (by omega) hz9
    refine J_aload_n dX7_meets_9 rfl ?_
    refine J_get jf_X7_67 dX7_meets_10 hO_a0 hF_rb ?_
    refine J_iload_n dX7_meets_13 rfl ?_
    refine Jz_iconst 1 dX7_meets_14 (by decide) (fun y14 he14 => ?_)
    refine Jz_zast (r := (0, 1)) jEq.rf he14 hW id dX7_meets_15 ha_MT rfl rfl (by omega) (by omega) (by omega) (by omega) (fun _ h => vp_nar_b (by omega) (by omega)) (fun V15 G15 hW hx15 hA15 hp15 ho15 => ?_)
    obtain ⟨hN15, hv15⟩ := WT_rngI (r := (0, 1)) hW id rfl hA15
    clear hN15
    have he := he.trans (hx15.sub (jsub_of rfl))
    have hkp := hkp.trans (jkc.of hx15 (jnot_of rfl))
    have ha0 := ha0.mono hx15.1
    have hb_rb := hb_rb.mono hx15.1
    have hb_qq := hb_qq.mono hx15.1
    have hO_a0 := hx15.2 _ _ hO_a0 (jnot_of rfl)
    have hK_a0 := hK_a0.mono hx15.1
    have ha_QU := hx15.2 _ _ ha_QU (jnot_of rfl)
    refine J_aload_n dX7_meets_16 rfl ?_
    refine J_get jf_X7_70 dX7_meets_17 hO_a0 hF_qq ?_
    refine J_aload_n dX7_meets_20 rfl ?_
    refine J_get jf_X7_205 dX7_meets_21 hO_a0 hF_qd ?_
    refine J_iload_n dX7_meets_24 rfl ?_
    refine Jz_iast (r := (0, 9999)) jEq.rf jEq.rf hW id dX7_meets_25 ha_QU rfl rfl (by omega) (by omega) (by omega) (by omega) (fun V25 G25 hW hx25 hA25 hp25 ho25 => ?_)
    obtain ⟨hN25, hv25⟩ := WT_rngI (r := (0, 9999)) hW id rfl hA25
    clear hN25
    have he := he.trans (hx25.sub (jsub_of rfl))
    have hkp := hkp.trans (jkc.of hx25 (jnot_of rfl))
    have ha0 := ha0.mono hx25.1
    have hb_rb := hb_rb.mono hx25.1
    have hb_qq := hb_qq.mono hx25.1
    have hO_a0 := hx25.2 _ _ hO_a0 (jnot_of rfl)
    have hK_a0 := hK_a0.mono hx25.1
    have hA15 := hx25.2 _ _ hA15 (jnot_of rfl)
    refine J_aload_n dX7_meets_26 rfl ?_
    refine J_dup dX7_meets_27 rfl ?_
    refine J_get jf_X7_205 dX7_meets_28 hO_a0 hF_qd ?_
    refine Jz_iconst 1 dX7_meets_31 (by decide) (fun y31 he31 => ?_)
    refine Jz_iadd jEq.rf he31 dX7_meets_32 (by omega) (by omega) (fun y32 he32 => ?_)
    refine Jz_putI hO_a0 hW id rfl jf_X7_205 jt_X7_22 he32 dX7_meets_33 (by omega) (by omega) (fun _ _ => ⟨rfl, rfl⟩) (fun V33 fs33 hW hx33 hO33 hS33 hT33 hB33 => ?_)
    have hK33 : jokO _ (jFs 5) fs33 := hW _ _ id hO33
    have hF33_20 := (hT33 20 (by decide)).trans hF_rb
    have hF33_21 := (hT33 21 (by decide)).trans hF_qq
    have he := he.trans (hx33.sub (jsub_of rfl))
    have hkp := hkp.trans (jkc.put hO_a0 hO33 hT33 hB33 (by decide))
    have ha0 := ha0.mono hx33.1
    have hb_rb := hb_rb.mono hx33.1
    have hb_qq := hb_qq.mono hx33.1
    have hA15 := hx33.2 _ _ hA15 (jnot_of rfl)
    have hA25 := hx33.2 _ _ hA25 (jnot_of rfl)
    exact J_ret (r := none) dX7_meets_36 ⟨rfl, rfl⟩ (⟨⟨hW, he, rfl⟩, ⟨G15, G25, y32, hA15, hA25, ⟨_, hO33, hS33⟩, (by rw [he32.eq]; exact hp3.add (by omega) hz9 hp4 (by rw [hp15, he14.eq]) ho15 (by rw [show L.length = qd.toInt.toNat by omega, hp25]; omega) (fun k hk => ho25 k (by omega)))⟩, hkp⟩)
