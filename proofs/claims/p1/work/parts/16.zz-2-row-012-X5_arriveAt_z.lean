set_option maxRecDepth 100000 in
set_option maxHeartbeats 8000000 in
theorem w_X5_arriveAt_z {tS : jTS} (d : Nat) (V0 : jH) (a0 : Nat) (x1 : Int32) (g : Int32) (sn : Int32) (b : Int32) (qd : Int32) (st : Nat) (qu : Nat) (R : Nat) (L : List Nat) (pw : Nat → Prop) (ST : Nat → Int32) (QU : Nat → Int32) (hd : 0 ≤ d) (hW : WT V0) (ha0 : jis V0 (.inr 3) a0) (hf_g : jfI V0 a0 3 0 g) (hf_sn : jfI V0 a0 3 1 sn) (hf_b : jfI V0 a0 3 2 b) (hf_qd : jfI V0 a0 3 6 qd) (hr_st : jfR V0 a0 3 3 st) (hr_qu : jfR V0 a0 3 4 qu) (ha_ST : V0 st = some (.inl (3, R, .inl ST))) (ha_QU : V0 qu = some (.inl (10, R, .inl QU))) (hp0 : 0 ≤ x1.toInt) (hp1 : x1.toInt < (R : Int)) (hp2 : (R : Int) ≤ 10000) (hp3 : jrs9 pw R ST QU qd.toInt L) : jTot tS mX5_arriveAt d [.ref a0, .int x1] V0 0 0 (fun r V => (jPost [.inr 3, .inl 3, .inl 10] V0 rV) r V ∧ (∃ (ST2 QU2 : Nat → Int32) (q2 : Int32), V st = some (.inl (3, R, .inl ST2)) ∧ V qu = some (.inl (10, R, .inl QU2)) ∧ jfI V a0 3 6 q2 ∧ jrs9 pw R ST2 QU2 q2.toInt (jadd pw L x1.toInt.toNat)) ∧ (∃ g2 : Int32, jfI V a0 3 0 g2 ∧ (g2.toInt = g.toInt)) ∧ (∃ sn2 : Int32, jfI V a0 3 1 sn2 ∧ (sn2.toInt = sn.toInt)) ∧ (∃ b2 : Int32, jfI V a0 3 2 b2 ∧ (b2.toInt = b.toInt))) := by
  refine jTot.of_J [some (.ref a0), some (.int x1)] moX5_arriveAt (Nat.le_of_ble_eq_true rfl) rfl ?_
  have hrx1 := j_rng x1
  have he : jeff [.inr 3, .inl 3, .inl 10] V0 V0 := jeff.refl _ _
  obtain ⟨fs_a0, hO_a0, hK_a0⟩ := WT_obj hW id ha0
  have hF_g := hf_g.get hO_a0
  have hrg : (-2147483648) ≤ g.toInt ∧ g.toInt ≤ 2147483647 := jok_rngI hK_a0 rfl hF_g
  have hF_sn := hf_sn.get hO_a0
  have hrsn : 0 ≤ sn.toInt ∧ sn.toInt ≤ 6 := jok_rngI hK_a0 rfl hF_sn
  have hF_b := hf_b.get hO_a0
  have hrb : (-2147483648) ≤ b.toInt ∧ b.toInt ≤ 2147483647 := jok_rngI hK_a0 rfl hF_b
  have hF_qd := hf_qd.get hO_a0
  have hrqd : 0 ≤ qd.toInt ∧ qd.toInt ≤ 2147483647 := jok_rngI hK_a0 rfl hF_qd
  have hF_st := hr_st.get hO_a0
  obtain ⟨w_st, hFq_st, b_st, hbq_st, hb_st⟩ := hK_a0.2 3 (.inr (some (.inl 3))) rfl
  cases hF_st.symm.trans (hFq_st.trans (congrArg some hbq_st))
  have hF_qu := hr_qu.get hO_a0
  obtain ⟨w_qu, hFq_qu, b_qu, hbq_qu, hb_qu⟩ := hK_a0.2 4 (.inr (some (.inl 10))) rfl
  cases hF_qu.symm.trans (hFq_qu.trans (congrArg some hbq_qu))
  obtain ⟨hN_ST, hv_ST⟩ := WT_rngI (r := ((-128), 127)) hW id rfl ha_ST
  clear hN_ST
  obtain ⟨hN_QU, hv_QU⟩ := WT_rngI (r := ((-2147483648), 2147483647)) hW id rfl ha_QU
  clear hN_QU
  refine J_iload_n dX5_arriveAt_0 rfl ?_
  refine Jz_if_lt (tgt := 42) jEq.rf dX5_arriveAt_1 (by decide) (fun c1 => (show False by omega).elim) (fun c1 => ?_)
  refine J_iload_n dX5_arriveAt_4 rfl ?_
  refine J_aload_n dX5_arriveAt_5 rfl ?_
  refine J_get jf_X5_43 dX5_arriveAt_6 hO_a0 hF_st ?_
  refine J_alen dX5_arriveAt_9 ha_ST rfl rfl ?_
  have he9 : jEq (Int32.ofNat R).toInt R := nI_toInt (by omega)
  generalize Int32.ofNat R = y9 at he9 ⊢
  refine Jz_icmp_ge (tgt := 42) jEq.rf he9 dX5_arriveAt_10 (by decide) (fun c10 => (show False by omega).elim) (fun c10 => ?_)
  refine J_aload_n dX5_arriveAt_13 rfl ?_
  refine J_get jf_X5_43 dX5_arriveAt_14 hO_a0 hF_st ?_
  refine J_iload_n dX5_arriveAt_17 rfl ?_
  refine Jz_bald (r := ((-128), 127)) jEq.rf dX5_arriveAt_18 ha_ST rfl hv_ST (by omega) (by omega) (fun y18 hf18 hl18 hh18 => ?_)
  dsimp only at hl18 hh18
  have e18 : (ST x1.toInt.toNat).toInt = y18.toInt := by rw [hf18]
  refine Jz_iconst 1 dX5_arriveAt_19 (by decide) (fun y19 he19 => ?_)
  refine Jz_icmp_ne (tgt := 42) jEq.rf he19 dX5_arriveAt_20 (by decide) (fun c20 => ?_) (fun c20 => ?_)
  · exact J_ret (r := none) dX5_arriveAt_42 ⟨rfl, rfl⟩ (⟨⟨hW, he, rfl⟩, ⟨ST, QU, qd, ha_ST, ha_QU, ⟨_, hO_a0, hF_qd⟩, hp3.same (by omega) (by rw [e18]; omega)⟩, ⟨_, ⟨_, hO_a0, hF_g⟩, (by omega)⟩, ⟨_, ⟨_, hO_a0, hF_sn⟩, (by omega)⟩, ⟨_, ⟨_, hO_a0, hF_b⟩, (by omega)⟩⟩)
  · have h1 : (ST x1.toInt.toNat).toInt = 1 := by rw [e18]; omega
    have hrm := hp3.room (by omega) h1
    have hln := hp3.len
    refine J_aload_n dX5_arriveAt_23 rfl ?_
    refine J_get jf_X5_15 dX5_arriveAt_24 hO_a0 hF_qd ?_
    refine Jz_if_lt (tgt := 42) jEq.rf dX5_arriveAt_27 (by decide) (fun c27 => (show False by omega).elim) (fun c27 => ?_)
    refine J_aload_n dX5_arriveAt_30 rfl ?_
    refine J_get jf_X5_15 dX5_arriveAt_31 hO_a0 hF_qd ?_
    refine J_aload_n dX5_arriveAt_34 rfl ?_
    refine J_get jf_X5_47 dX5_arriveAt_35 hO_a0 hF_qu ?_
    refine J_alen dX5_arriveAt_38 ha_QU rfl rfl ?_
    have he38 : jEq (Int32.ofNat R).toInt R := nI_toInt (by omega)
    generalize Int32.ofNat R = y38 at he38 ⊢
    refine Jz_icmp_lt (tgt := 43) jEq.rf he38 dX5_arriveAt_39 (by decide) (fun c39 => ?_) (fun c39 => (show False by omega).elim)
    refine J_aload_n dX5_arriveAt_43 rfl ?_
    refine J_get jf_X5_43 dX5_arriveAt_44 hO_a0 hF_st ?_
    refine J_iload_n dX5_arriveAt_47 rfl ?_
    refine Jz_iconst 2 dX5_arriveAt_48 (by decide) (fun y48 he48 => ?_)
    refine Jz_bast (r := ((-128), 127)) jEq.rf he48 hW id dX5_arriveAt_49 ha_ST rfl rfl (by omega) (by omega) (by omega) (by omega) (fun q h => by rw [jI_inj.mp (show q.toInt = (2 : Int32).toInt from h)]; rfl) (fun V49 G49 hW hx49 hA49 hp49 ho49 => ?_)
    obtain ⟨hN49, hv49⟩ := WT_rngI (r := ((-128), 127)) hW id rfl hA49
    clear hN49
    have he := he.trans (hx49.sub (jsub_of rfl))
    have ha0 := ha0.mono hx49.1
    have hb_st := hb_st.mono hx49.1
    have hb_qu := hb_qu.mono hx49.1
    have hO_a0 := hx49.2 _ _ hO_a0 (jnot_of rfl)
    have hK_a0 := hK_a0.mono hx49.1
    have ha_QU := hx49.2 _ _ ha_QU (jnot_of rfl)
    refine J_aload_n dX5_arriveAt_50 rfl ?_
    refine J_get jf_X5_47 dX5_arriveAt_51 hO_a0 hF_qu ?_
    refine J_aload_n dX5_arriveAt_54 rfl ?_
    refine J_get jf_X5_15 dX5_arriveAt_55 hO_a0 hF_qd ?_
    refine J_iload_n dX5_arriveAt_58 rfl ?_
    refine Jz_iast (r := ((-2147483648), 2147483647)) jEq.rf jEq.rf hW id dX5_arriveAt_59 ha_QU rfl rfl (by omega) (by omega) (j_rng _).1 (j_rng _).2 (fun V59 G59 hW hx59 hA59 hp59 ho59 => ?_)
    obtain ⟨hN59, hv59⟩ := WT_rngI (r := ((-2147483648), 2147483647)) hW id rfl hA59
    clear hN59
    have he := he.trans (hx59.sub (jsub_of rfl))
    have ha0 := ha0.mono hx59.1
    have hb_st := hb_st.mono hx59.1
    have hb_qu := hb_qu.mono hx59.1
    have hO_a0 := hx59.2 _ _ hO_a0 (jnot_of rfl)
    have hK_a0 := hK_a0.mono hx59.1
    have hA49 := hx59.2 _ _ hA49 (jnot_of rfl)
    refine J_aload_n dX5_arriveAt_60 rfl ?_
    refine J_dup dX5_arriveAt_61 rfl ?_
    refine J_get jf_X5_15 dX5_arriveAt_62 hO_a0 hF_qd ?_
    refine Jz_iconst 1 dX5_arriveAt_65 (by decide) (fun y65 he65 => ?_)
    refine Jz_iadd jEq.rf he65 dX5_arriveAt_66 (by omega) (by omega) (fun y66 he66 => ?_)
    refine Jz_putI hO_a0 hW id rfl jf_X5_15 jt_X5_6 he66 dX5_arriveAt_67 (by omega) (by omega) (fun _ _ => ⟨rfl, rfl⟩) (fun V67 fs67 hW hx67 hO67 hS67 hT67 hB67 => ?_)
    have hK67 : jokO _ (jFs 3) fs67 := hW _ _ id hO67
    have hF67_0 := (hT67 0 (by decide)).trans hF_g
    have hF67_1 := (hT67 1 (by decide)).trans hF_sn
    have hF67_2 := (hT67 2 (by decide)).trans hF_b
    have hF67_3 := (hT67 3 (by decide)).trans hF_st
    have hF67_4 := (hT67 4 (by decide)).trans hF_qu
    have he := he.trans (hx67.sub (jsub_of rfl))
    have ha0 := ha0.mono hx67.1
    have hb_st := hb_st.mono hx67.1
    have hb_qu := hb_qu.mono hx67.1
    have hA49 := hx67.2 _ _ hA49 (jnot_of rfl)
    have hA59 := hx67.2 _ _ hA59 (jnot_of rfl)
    exact J_ret (r := none) dX5_arriveAt_70 ⟨rfl, rfl⟩ (⟨⟨hW, he, rfl⟩, ⟨G49, G59, y66, hA49, hA59, ⟨_, hO67, hS67⟩, (by rw [he66.eq]; exact hp3.add (by omega) h1 (by rw [hp49, he48.eq]) ho49 (by rw [show L.length = qd.toInt.toNat by omega, hp59]; omega) (fun k hk => ho59 k (by omega)))⟩, ⟨_, ⟨_, hO67, hF67_0⟩, (by omega)⟩, ⟨_, ⟨_, hO67, hF67_1⟩, (by omega)⟩, ⟨_, ⟨_, hO67, hF67_2⟩, (by omega)⟩⟩)
