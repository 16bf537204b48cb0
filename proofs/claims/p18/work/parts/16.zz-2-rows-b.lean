set_option maxRecDepth 100000 in
set_option maxHeartbeats 4000000 in
theorem w_X5_init_z {tS : jTS} (d : Nat) (V0 : jH) (q : Nat) (x1 : Int32) (x2 : Int32) (x3 : Int32)  (hd : 1 ≤ d) (hW : WTx (fun a => False ∨ a = q) V0) (hq : V0 q = some (.inr (3, [.int 0, .int 0, .int 0, .null, .null, .null, .int 0])))   : jTot tS mX5_init d [.ref q, .int x1, .int x2, .int x3] V0 3 20006 (fun r V => r = none ∧ WTx (fun _ => False) V ∧ jeff [.inr 3] V0 V ∧ jis V (.inr 3) q ∧ (jtu V0 V q x1 x2 x3)) := by
  refine jTot.of_J [some (.ref q), some (.int x1), some (.int x2), some (.int x3), none] moX5_init (Nat.le_of_ble_eq_true rfl) rfl ?_
  have he : jeff [.inr 3] V0 V0 := jeff.refl _ _
  have hkp : jfa [q] V0 V0 := jfa.rf
  refine J_aload_n dX5_init_0 rfl ?_
  refine J_objInit jw_ml_X5_3 jw_oi2 jw_oi3 dX5_init_1 (by omega) (Nat.le_of_ble_eq_true rfl) ?_
  refine J_aload_n dX5_init_4 rfl ?_
  refine J_bipush (v := 6) dX5_init_5 (by decide) ?_
  refine Jc_newax (atype := .int) (t := 11) (B := 6) (x := .inl (fun _ => 0)) jw_ac_int rfl (fun _ h => by cases h) (by decide) dX5_init_7 (by decide) (by decide) (by decide) (fun _ _ => rfl) (fun hN => jok_zI rfl (by decide) (by decide) (fun m h => by cases h <;> rfl) hN) (by decide) (by decide) hW (fun b7 V7 hn7 hb7 hk7 hW hx7 hA7 => ?_)
  have hz7 := he.1.none hn7
  have hkp := hkp.trans he.1 (jfa.new hk7)
  have he := he.trans (hx7.sub (jsub_of rfl))
  have hq := hk7 _ _ hq
  have hA7 : V7 b7 = some (.inl (11, 6, .inl (fun _ => 0))) := hA7
  refine Jc_putF jf_X5_9 jt_X5_5 rfl (fun _ h => by cases h; rfl) dX5_init_9 hq rfl rfl (Nat.le_of_ble_eq_true rfl) (fun _ h => by cases h) hW (fun V9 hq hW hx9 hB9 => ?_)
  have hkp := hkp.trans he.1 (jfa.one hB9)
  have he := he.trans (hx9.sub (jsub_of rfl))
  have hb7 := hb7.mono hx9.1
  have hA7 := hx9.2 _ _ hA7 (jnot_of rfl)
  refine J_aload_n dX5_init_12 rfl ?_
  refine J_iconst (v := 0) dX5_init_13 (by decide) ?_
  refine Jc_put jf_X5_15 jt_X5_6 dX5_init_14 hq rfl rfl (Nat.le_of_ble_eq_true rfl) (fun _ h => by cases h) hW (fun V14 hq hW hx14 hB14 => ?_)
  have hkp := hkp.trans he.1 (jfa.one hB14)
  have he := he.trans (hx14.sub (jsub_of rfl))
  have hb7 := hb7.mono hx14.1
  have hA7 := hx14.2 _ _ hA7 (jnot_of rfl)
  refine J_aload_n dX5_init_17 rfl ?_
  refine J_iload_n dX5_init_18 rfl ?_
  refine Jc_putF jf_X5_19 jt_X5_0 rfl (fun _ h => by cases h; rfl) dX5_init_19 hq rfl rfl (Nat.le_of_ble_eq_true rfl) (fun _ h => by cases h) hW (fun V19 hq hW hx19 hB19 => ?_)
  have hkp := hkp.trans he.1 (jfa.one hB19)
  have he := he.trans (hx19.sub (jsub_of rfl))
  have hb7 := hb7.mono hx19.1
  have hA7 := hx19.2 _ _ hA7 (jnot_of rfl)
  refine J_aload_n dX5_init_22 rfl ?_
  refine J_iconst (v := 0) dX5_init_23 (by decide) ?_
  refine J_iload_n dX5_init_24 rfl ?_
  refine J_bipush (v := 6) dX5_init_25 (by decide) ?_
  refine J_mmin jw_ml_X5_22 dX5_init_27 (by omega) (Nat.le_of_ble_eq_true rfl) ?_
  refine J_mmax jw_ml_X5_28 dX5_init_30 (by omega) (Nat.le_of_ble_eq_true rfl) ?_
  refine Jc_putF jf_X5_31 jt_X5_1 rfl (fun _ h => by cases h; rfl) dX5_init_33 hq rfl rfl (Nat.le_of_ble_eq_true rfl) (fun _ h => by cases h) hW (fun V33 hq hW hx33 hB33 => ?_)
  have hkp := hkp.trans he.1 (jfa.one hB33)
  have he := he.trans (hx33.sub (jsub_of rfl))
  have hb7 := hb7.mono hx33.1
  have hA7 := hx33.2 _ _ hA7 (jnot_of rfl)
  refine J_aload_n dX5_init_36 rfl ?_
  refine J_iload_n dX5_init_37 rfl ?_
  refine J_callS1 moX0_directions jw_ml_X5_34 jw_st_X0_directions dX5_init_38 (w_X0_directions_z (d - 1) _ x1 (by omega)) (by omega) (Nat.zero_le _) (Nat.zero_le _) (Nat.le_of_ble_eq_true rfl) (fun r38 V38 h38 => ?_)
  obtain ⟨⟨y38, rfl, hl38, hh38, hP38⟩, hE38⟩ := h38
  have hE38 := hE38.symm
  subst hE38
  · refine Jc_putF jf_X5_40 jt_X5_2 rfl (fun _ h => by cases h; rfl) dX5_init_41 hq rfl rfl (Nat.le_of_ble_eq_true rfl) (fun _ h => by cases h) hW (fun V41 hq hW hx41 hB41 => ?_)
    have hkp := hkp.trans he.1 (jfa.one hB41)
    have he := he.trans (hx41.sub (jsub_of rfl))
    have hb7 := hb7.mono hx41.1
    have hA7 := hx41.2 _ _ hA7 (jnot_of rfl)
    refine J_iconst (v := 0) dX5_init_44 (by decide) ?_
    refine J_iload_n dX5_init_45 rfl ?_
    refine J_sipush (v := 10000) dX5_init_46 (by decide) ?_
    refine J_mmin jw_ml_X5_22 dX5_init_49 (by omega) (Nat.le_of_ble_eq_true rfl) ?_
    refine J_mmax jw_ml_X5_28 dX5_init_52 (by omega) (Nat.le_of_ble_eq_true rfl) ?_
    refine J_istore dX5_init_55 rfl (by decide) ?_
    refine J_aload_n dX5_init_57 rfl ?_
    refine J_iload dX5_init_58 rfl ?_
    refine Jc_newax (atype := .byte) (t := 3) (B := 10000) (x := .inl (fun _ => 0)) jw_ac_byte rfl (fun _ h => by cases h) (by decide) dX5_init_60 (jroom_lo _) (jroom_hi _) (by decide) (fun _ _ => rfl) (fun hN => jok_zI rfl (by decide) (by decide) (fun m h => by cases h <;> rfl) hN) (by decide) (by decide) hW (fun b60 V60 hn60 hb60 hk60 hW hx60 hA60 => ?_)
    have hz60 := he.1.none hn60
    have hkp := hkp.trans he.1 (jfa.new hk60)
    have he := he.trans (hx60.sub (jsub_of rfl))
    have hb7 := hb7.mono hx60.1
    have hq := hk60 _ _ hq
    have hA7 := hk60 _ _ hA7
    refine Jc_putF jf_X5_43 jt_X5_3 rfl (fun _ h => by cases h; rfl) dX5_init_62 hq rfl rfl (Nat.le_of_ble_eq_true rfl) (fun _ h => by cases h) hW (fun V62 hq hW hx62 hB62 => ?_)
    have hkp := hkp.trans he.1 (jfa.one hB62)
    have he := he.trans (hx62.sub (jsub_of rfl))
    have hb7 := hb7.mono hx62.1
    have hb60 := hb60.mono hx62.1
    have hA7 := hx62.2 _ _ hA7 (jnot_of rfl)
    have hA60 := hx62.2 _ _ hA60 (jnot_of rfl)
    refine J_aload_n dX5_init_65 rfl ?_
    refine J_iload dX5_init_66 rfl ?_
    refine Jc_newax (atype := .int) (t := 10) (B := 10000) (x := .inl (fun _ => 0)) jw_ac_int rfl (fun _ h => by cases h) (by decide) dX5_init_68 (jroom_lo _) (jroom_hi _) (by decide) (fun _ _ => rfl) (fun hN => jok_zI rfl (by decide) (by decide) (fun m h => by cases h <;> rfl) hN) (by decide) (by decide) hW (fun b68 V68 hn68 hb68 hk68 hW hx68 hA68 => ?_)
    have hz68 := he.1.none hn68
    have hkp := hkp.trans he.1 (jfa.new hk68)
    have he := he.trans (hx68.sub (jsub_of rfl))
    have hb7 := hb7.mono hx68.1
    have hb60 := hb60.mono hx68.1
    have hq := hk68 _ _ hq
    have hA7 := hk68 _ _ hA7
    have hA60 := hk68 _ _ hA60
    refine Jc_putF jf_X5_47 jt_X5_4 rfl (fun _ h => by cases h; rfl) dX5_init_70 hq rfl rfl (Nat.le_of_ble_eq_true rfl) (fun _ h => by cases h) hW (fun V70 hq hW hx70 hB70 => ?_)
    have hkp := hkp.trans he.1 (jfa.one hB70)
    have he := he.trans (hx70.sub (jsub_of rfl))
    have hb7 := hb7.mono hx70.1
    have hb60 := hb60.mono hx70.1
    have hb68 := hb68.mono hx70.1
    have hA7 := hx70.2 _ _ hA7 (jnot_of rfl)
    have hA60 := hx70.2 _ _ hA60 (jnot_of rfl)
    have hA68 := hx70.2 _ _ hA68 (jnot_of rfl)
    have hls := jst_lo x2
    have hhs := jst_hi x2
    exact J_ret (r := none) dX5_init_73 ⟨rfl, rfl⟩ (⟨rfl, hW.fin hq (jokO_cons ⟨_, rfl, (j_rng _).1, (j_rng _).2⟩ (jokO_cons ⟨_, rfl, by first | decide | assumption | omega, by first | decide | assumption | omega⟩ (jokO_cons ⟨_, rfl, (j_rng _).1, (j_rng _).2⟩ (jokO_cons ⟨_, rfl, hb60⟩ (jokO_cons ⟨_, rfl, hb68⟩ (jokO_cons ⟨_, rfl, hb7⟩ (jokO_cons ⟨_, rfl, by first | decide | assumption | omega, by first | decide | assumption | omega⟩ (jokO_nil)))))))), he, ⟨_, hq, rfl⟩, jtu.mk hz60 hz68 hz7 hP38 ⟨_, hq, rfl⟩ ⟨_, hq, rfl⟩ ⟨_, hq, rfl⟩ ⟨_, hq, rfl⟩ ⟨_, hq, rfl⟩ ⟨_, hq, rfl⟩ ⟨_, hq, rfl⟩ hA60 hA68 hA7 hkp⟩)
set_option maxRecDepth 100000 in
set_option maxHeartbeats 8000000 in
theorem w_X5_arriveAt_z {tS : jTS} (d : Nat) (V0 : jH) (a0 : Nat) (x1 : Int32) (g : Int32) (sn : Int32) (b : Int32) (qd : Int32) (st : Nat) (qu : Nat) (R : Nat) (L : List Nat) (pw : Nat → Prop) (ST : Nat → Int32) (QU : Nat → Int32) (hd : 0 ≤ d) (hW : WT V0) (ha0 : jis V0 (.inr 3) a0) (hf_g : jfI V0 a0 3 0 g) (hf_sn : jfI V0 a0 3 1 sn) (hf_b : jfI V0 a0 3 2 b) (hf_qd : jfI V0 a0 3 6 qd) (hr_st : jfR V0 a0 3 3 st) (hr_qu : jfR V0 a0 3 4 qu) (ha_ST : V0 st = some (.inl (3, R, .inl ST))) (ha_QU : V0 qu = some (.inl (10, R, .inl QU))) (hp0 : 0 ≤ x1.toInt) (hp1 : x1.toInt < (R : Int)) (hp2 : (R : Int) ≤ 10000) (hp3 : jrs9 pw R ST QU qd.toInt L) : jTot tS mX5_arriveAt d [.ref a0, .int x1] V0 0 0 (fun r V => (jPost [.inr 3, .inl 3, .inl 10] V0 rV) r V ∧ (∃ (ST2 QU2 : Nat → Int32) (q2 : Int32), V st = some (.inl (3, R, .inl ST2)) ∧ V qu = some (.inl (10, R, .inl QU2)) ∧ jfI V a0 3 6 q2 ∧ jrs9 pw R ST2 QU2 q2.toInt (jadd pw L x1.toInt.toNat)) ∧ (∃ g2 : Int32, jfI V a0 3 0 g2 ∧ (g2.toInt = g.toInt)) ∧ (∃ sn2 : Int32, jfI V a0 3 1 sn2 ∧ (sn2.toInt = sn.toInt)) ∧ (∃ b2 : Int32, jfI V a0 3 2 b2 ∧ (b2.toInt = b.toInt))) := by
  refine jTot.of_J [some (.ref a0), some (.int x1)] moX5_arriveAt (Nat.le_of_ble_eq_true rfl) rfl ?_
  have hrx1 := j_rng x1
  have he : jeff [.inr 3, .inl 3, .inl 10] V0 V0 := jeff.refl _ _
  obtain ⟨fs_a0, hO_a0, hK_a0⟩ := WT_obj hW id ha0
  have hF_g := hf_g.get hO_a0
  have hrg : (-2147483648) ≤ g.toInt ∧ g.toInt ≤ 2147483647 := jok_rngI hK_a0 rfl hF_g
  have hF_sn := hf_sn.get hO_a0
  have hrsn : 0 ≤ sn.toInt ∧ sn.toInt ≤ 6 := jok_rngI hK_a0 rfl hF_sn
  have hF_b := hf_b.get hO_a0
  have hrb : (-2147483648) ≤ b.toInt ∧ b.toInt ≤ 2147483647 := jok_rngI hK_a0 rfl hF_b
  have hF_qd := hf_qd.get hO_a0
  have hrqd : 0 ≤ qd.toInt ∧ qd.toInt ≤ 2147483647 := jok_rngI hK_a0 rfl hF_qd
  have hF_st := hr_st.get hO_a0
  obtain ⟨w_st, hFq_st, b_st, hbq_st, hb_st⟩ := hK_a0.2 3 (.inr (some (.inl 3))) rfl
  cases hF_st.symm.trans (hFq_st.trans (congrArg some hbq_st))
  have hF_qu := hr_qu.get hO_a0
  obtain ⟨w_qu, hFq_qu, b_qu, hbq_qu, hb_qu⟩ := hK_a0.2 4 (.inr (some (.inl 10))) rfl
  cases hF_qu.symm.trans (hFq_qu.trans (congrArg some hbq_qu))
  obtain ⟨hN_ST, hv_ST⟩ := WT_rngI (r := ((-128), 127)) hW id rfl ha_ST
  clear hN_ST
  obtain ⟨hN_QU, hv_QU⟩ := WT_rngI (r := ((-2147483648), 2147483647)) hW id rfl ha_QU
  clear hN_QU
  refine J_iload_n dX5_arriveAt_0 rfl ?_
  refine Jz_if_lt (tgt := 42) jEq.rf dX5_arriveAt_1 (by decide) (fun c1 => (show False by omega).elim) (fun c1 => ?_)
  refine J_iload_n dX5_arriveAt_4 rfl ?_
  refine J_aload_n dX5_arriveAt_5 rfl ?_
  refine J_get jf_X5_43 dX5_arriveAt_6 hO_a0 hF_st ?_
  refine J_alen dX5_arriveAt_9 ha_ST rfl rfl ?_
  have he9 : jEq (Int32.ofNat R).toInt R := nI_toInt (by omega)
  generalize Int32.ofNat R = y9 at he9 ⊢
  refine Jz_icmp_ge (tgt := 42) jEq.rf he9 dX5_arriveAt_10 (by decide) (fun c10 => (show False by omega).elim) (fun c10 => ?_)
  refine J_aload_n dX5_arriveAt_13 rfl ?_
  refine J_get jf_X5_43 dX5_arriveAt_14 hO_a0 hF_st ?_
  refine J_iload_n dX5_arriveAt_17 rfl ?_
  refine Jz_bald (r := ((-128), 127)) jEq.rf dX5_arriveAt_18 ha_ST rfl hv_ST (by omega) (by omega) (fun y18 hf18 hl18 hh18 => ?_)
  dsimp only at hl18 hh18
  have e18 : (ST x1.toInt.toNat).toInt = y18.toInt := by rw [hf18]
  refine Jz_iconst 1 dX5_arriveAt_19 (by decide) (fun y19 he19 => ?_)
  refine Jz_icmp_ne (tgt := 42) jEq.rf he19 dX5_arriveAt_20 (by decide) (fun c20 => ?_) (fun c20 => ?_)
  · exact J_ret (r := none) dX5_arriveAt_42 ⟨rfl, rfl⟩ (⟨⟨hW, he, rfl⟩, ⟨ST, QU, qd, ha_ST, ha_QU, ⟨_, hO_a0, hF_qd⟩, hp3.same (by omega) (by rw [e18]; omega)⟩, ⟨_, ⟨_, hO_a0, hF_g⟩, (by omega)⟩, ⟨_, ⟨_, hO_a0, hF_sn⟩, (by omega)⟩, ⟨_, ⟨_, hO_a0, hF_b⟩, (by omega)⟩⟩)
  · have h1 : (ST x1.toInt.toNat).toInt = 1 := by rw [e18]; omega
    have hrm := hp3.room (by omega) h1
    have hln := hp3.len
    refine J_aload_n dX5_arriveAt_23 rfl ?_
    refine J_get jf_X5_15 dX5_arriveAt_24 hO_a0 hF_qd ?_
    refine Jz_if_lt (tgt := 42) jEq.rf dX5_arriveAt_27 (by decide) (fun c27 => (show False by omega).elim) (fun c27 => ?_)
    refine J_aload_n dX5_arriveAt_30 rfl ?_
    refine J_get jf_X5_15 dX5_arriveAt_31 hO_a0 hF_qd ?_
    refine J_aload_n dX5_arriveAt_34 rfl ?_
    refine J_get jf_X5_47 dX5_arriveAt_35 hO_a0 hF_qu ?_
    refine J_alen dX5_arriveAt_38 ha_QU rfl rfl ?_
    have he38 : jEq (Int32.ofNat R).toInt R := nI_toInt (by omega)
    generalize Int32.ofNat R = y38 at he38 ⊢
    refine Jz_icmp_lt (tgt := 43) jEq.rf he38 dX5_arriveAt_39 (by decide) (fun c39 => ?_) (fun c39 => (show False by omega).elim)
    refine J_aload_n dX5_arriveAt_43 rfl ?_
    refine J_get jf_X5_43 dX5_arriveAt_44 hO_a0 hF_st ?_
    refine J_iload_n dX5_arriveAt_47 rfl ?_
    refine Jz_iconst 2 dX5_arriveAt_48 (by decide) (fun y48 he48 => ?_)
    refine Jz_bast (r := ((-128), 127)) jEq.rf he48 hW id dX5_arriveAt_49 ha_ST rfl rfl (by omega) (by omega) (by omega) (by omega) (fun q h => by rw [jI_inj.mp (show q.toInt = (2 : Int32).toInt from h)]; rfl) (fun V49 G49 hW hx49 hA49 hp49 ho49 => ?_)
    obtain ⟨hN49, hv49⟩ := WT_rngI (r := ((-128), 127)) hW id rfl hA49
    clear hN49
    have he := he.trans (hx49.sub (jsub_of rfl))
    have ha0 := ha0.mono hx49.1
    have hb_st := hb_st.mono hx49.1
    have hb_qu := hb_qu.mono hx49.1
    have hO_a0 := hx49.2 _ _ hO_a0 (jnot_of rfl)
    have hK_a0 := hK_a0.mono hx49.1
    have ha_QU := hx49.2 _ _ ha_QU (jnot_of rfl)
    refine J_aload_n dX5_arriveAt_50 rfl ?_
    refine J_get jf_X5_47 dX5_arriveAt_51 hO_a0 hF_qu ?_
    refine J_aload_n dX5_arriveAt_54 rfl ?_
    refine J_get jf_X5_15 dX5_arriveAt_55 hO_a0 hF_qd ?_
    refine J_iload_n dX5_arriveAt_58 rfl ?_
    refine Jz_iast (r := ((-2147483648), 2147483647)) jEq.rf jEq.rf hW id dX5_arriveAt_59 ha_QU rfl rfl (by omega) (by omega) (j_rng _).1 (j_rng _).2 (fun V59 G59 hW hx59 hA59 hp59 ho59 => ?_)
    obtain ⟨hN59, hv59⟩ := WT_rngI (r := ((-2147483648), 2147483647)) hW id rfl hA59
    clear hN59
    have he := he.trans (hx59.sub (jsub_of rfl))
    have ha0 := ha0.mono hx59.1
    have hb_st := hb_st.mono hx59.1
    have hb_qu := hb_qu.mono hx59.1
    have hO_a0 := hx59.2 _ _ hO_a0 (jnot_of rfl)
    have hK_a0 := hK_a0.mono hx59.1
    have hA49 := hx59.2 _ _ hA49 (jnot_of rfl)
    refine J_aload_n dX5_arriveAt_60 rfl ?_
    refine J_dup dX5_arriveAt_61 rfl ?_
    refine J_get jf_X5_15 dX5_arriveAt_62 hO_a0 hF_qd ?_
    refine Jz_iconst 1 dX5_arriveAt_65 (by decide) (fun y65 he65 => ?_)
    refine Jz_iadd jEq.rf he65 dX5_arriveAt_66 (by omega) (by omega) (fun y66 he66 => ?_)
    refine Jz_putI hO_a0 hW id rfl jf_X5_15 jt_X5_6 he66 dX5_arriveAt_67 (by omega) (by omega) (fun _ _ => ⟨rfl, rfl⟩) (fun V67 fs67 hW hx67 hO67 hS67 hT67 hB67 => ?_)
    have hK67 : jokO _ (jFs 3) fs67 := hW _ _ id hO67
    have hF67_0 := (hT67 0 (by decide)).trans hF_g
    have hF67_1 := (hT67 1 (by decide)).trans hF_sn
    have hF67_2 := (hT67 2 (by decide)).trans hF_b
    have hF67_3 := (hT67 3 (by decide)).trans hF_st
    have hF67_4 := (hT67 4 (by decide)).trans hF_qu
    have he := he.trans (hx67.sub (jsub_of rfl))
    have ha0 := ha0.mono hx67.1
    have hb_st := hb_st.mono hx67.1
    have hb_qu := hb_qu.mono hx67.1
    have hA49 := hx67.2 _ _ hA49 (jnot_of rfl)
    have hA59 := hx67.2 _ _ hA59 (jnot_of rfl)
    exact J_ret (r := none) dX5_arriveAt_70 ⟨rfl, rfl⟩ (⟨⟨hW, he, rfl⟩, ⟨G49, G59, y66, hA49, hA59, ⟨_, hO67, hS67⟩, (by rw [he66.eq]; exact hp3.add (by omega) h1 (by rw [hp49, he48.eq]) ho49 (by rw [show L.length = qd.toInt.toNat by omega, hp59]; omega) (fun k hk => ho59 k (by omega)))⟩, ⟨_, ⟨_, hO67, hF67_0⟩, (by omega)⟩, ⟨_, ⟨_, hO67, hF67_1⟩, (by omega)⟩, ⟨_, ⟨_, hO67, hF67_2⟩, (by omega)⟩⟩)
set_option maxRecDepth 100000 in
set_option maxHeartbeats 8000000 in
theorem w_X5_takeApart_z {tS : jTS} (d : Nat) (V0 : jH) (a0 : Nat) (x1 : Int32) (sn : Int32) (b : Int32) (dg : Nat) (DG : Nat → Int32) (hd : 1 ≤ d) (hW : WT V0) (ha0 : jis V0 (.inr 3) a0) (hf_sn : jfI V0 a0 3 1 sn) (hf_b : jfI V0 a0 3 2 b) (hr_dg : jfR V0 a0 3 5 dg) (ha_DG : V0 dg = some (.inl (11, 6, .inl DG))) (hp0 : 1 ≤ sn.toInt) (hp1 : sn.toInt ≤ 6) (hp2 : 3 ≤ b.toInt) (hp3 : b.toInt ≤ 6) (hp4 : 0 ≤ x1.toInt) : jTot tS mX5_takeApart d [.ref a0, .int x1] V0 0 0 (fun r V => (jPost [.inl 11] V0 rV) r V ∧ (∃ DG2 : Nat → Int32, V dg = some (.inl (11, 6, .inl DG2)) ∧ ∀ i : Nat, (i : Int) < sn.toInt → (DG2 i).toInt = jdg9 b.toInt.toNat sn.toInt.toNat x1.toInt.toNat i)) := by
  refine jTot.of_J [some (.ref a0), some (.int x1), none, none] moX5_takeApart (Nat.le_of_ble_eq_true rfl) rfl ?_
  have hrx1 := j_rng x1
  have he : jeff [.inl 11] V0 V0 := jeff.refl _ _
  obtain ⟨fs_a0, hO_a0, hK_a0⟩ := WT_obj hW id ha0
  have hF_sn := hf_sn.get hO_a0
  have hrsn : 0 ≤ sn.toInt ∧ sn.toInt ≤ 6 := jok_rngI hK_a0 rfl hF_sn
  have hF_b := hf_b.get hO_a0
  have hrb : (-2147483648) ≤ b.toInt ∧ b.toInt ≤ 2147483647 := jok_rngI hK_a0 rfl hF_b
  have hF_dg := hr_dg.get hO_a0
  obtain ⟨w_dg, hFq_dg, b_dg, hbq_dg, hb_dg⟩ := hK_a0.2 5 (.inr (some (.inl 11))) rfl
  cases hF_dg.symm.trans (hFq_dg.trans (congrArg some hbq_dg))
  obtain ⟨hN_DG, hv_DG⟩ := WT_rngI (r := ((-2147483648), 2147483647)) hW id rfl ha_DG
  clear hN_DG
  refine J_aload_n dX5_takeApart_0 rfl ?_
  refine J_get jf_X5_40 dX5_takeApart_1 hO_a0 hF_b ?_
  refine Jz_iconst 1 dX5_takeApart_4 (by decide) (fun y4 he4 => ?_)
  refine Jz_icmp_ge (tgt := 9) jEq.rf he4 dX5_takeApart_5 (by decide) (fun c5 => ?_) (fun c5 => (show False by omega).elim)
  refine J_iload_n dX5_takeApart_9 rfl ?_
  refine J_istore_n dX5_takeApart_10 rfl (by decide) ?_
  refine J_aload_n dX5_takeApart_11 rfl ?_
  refine J_get jf_X5_31 dX5_takeApart_12 hO_a0 hF_sn ?_
  refine Jz_iconst 1 dX5_takeApart_15 (by decide) (fun y15 he15 => ?_)
  refine Jz_isub jEq.rf he15 dX5_takeApart_16 (by omega) (by omega) (fun y16 he16 => ?_)
  refine J_istore_n dX5_takeApart_17 rfl (by decide) ?_
  have L18 : ∀ (N : Nat) (V : jH) (i2n18 : Int32) (i3n18 : Int32) (F11n18 : Nat → Int32), WT V → jeff [.inl 11] V0 V → (jis V (.inr 3) a0) → (jis V (.inl 11) dg) → (V a0 = some (.inr (3, fs_a0))) → (jokO V (jFs 3) fs_a0) → (V dg = some (.inl (11, 6, .inl F11n18))) → (-1 ≤ i3n18.toInt ∧ i3n18.toInt ≤ sn.toInt - 1) → (i2n18.toInt = ((x1.toInt.toNat / b.toInt.toNat ^ (sn.toInt - 1 - i3n18.toInt).toNat : Nat) : Int)) → (∀ i : Nat, i3n18.toInt < (i : Int) → (i : Int) < sn.toInt → (F11n18 i).toInt = jdg9 b.toInt.toNat sn.toInt.toNat x1.toInt.toNat i) → (i3n18.toInt + 2).toNat < N → J tS mX5_takeApart d 18 [some (.ref a0), some (.int x1), some (.int i2n18), some (.int i3n18)] [] V 0 0 (fun r V => (jPost [.inl 11] V0 rV) r V ∧ (∃ DG2 : Nat → Int32, V dg = some (.inl (11, 6, .inl DG2)) ∧ ∀ i : Nat, (i : Int) < sn.toInt → (DG2 i).toInt = jdg9 b.toInt.toNat sn.toInt.toNat x1.toInt.toNat i)) := by
    intro N
    induction N with
    | zero => intro V i2n18 i3n18 F11n18 hW he ha0 hb_dg hO_a0 hK_a0 hAF11n18 hi3 hlf hrw hm; exact absurd hm (Nat.not_lt_zero _)
    | succ N ih =>
      intro V i2n18 i3n18 F11n18 hW he ha0 hb_dg hO_a0 hK_a0 hAF11n18 hi3 hlf hrw hm
      have ih18 := ih
      have hri3 := j_rng i3n18
      obtain ⟨hNF11n18, hvF11n18⟩ := WT_rngI (r := ((-2147483648), 2147483647)) hW id rfl hAF11n18
      clear hNF11n18
      refine J_iload_n dX5_takeApart_18 rfl ?_
      refine Jz_if_lt (tgt := 49) jEq.rf dX5_takeApart_19 (by decide) (fun c19 => ?_) (fun c19 => ?_)
      · exact J_ret (r := none) dX5_takeApart_49 ⟨rfl, rfl⟩ (⟨⟨hW, he, rfl⟩, ⟨F11n18, hAF11n18, fun i hi => hrw i (by omega) hi⟩⟩)
      · have hl0 : 0 ≤ i2n18.toInt := by rw [hlf]; exact Int.natCast_nonneg _
        refine J_aload_n dX5_takeApart_22 rfl ?_
        refine J_get jf_X5_9 dX5_takeApart_23 hO_a0 hF_dg ?_
        refine J_iload_n dX5_takeApart_26 rfl ?_
        refine J_iload_n dX5_takeApart_27 rfl ?_
        refine J_aload_n dX5_takeApart_28 rfl ?_
        refine J_get jf_X5_40 dX5_takeApart_29 hO_a0 hF_b ?_
        refine Jz_iremC jEq.rf jEq.rf dX5_takeApart_32 (by omega) (by omega) (fun y32 he32 => ?_)
        refine J_callSN3 moX6_put (host := "WalkGrounds") (List.mem_of_getElem? (i := 6) rfl) jw_st_X6_put dX5_takeApart_33 (w_X6_put_z (d - 1) _ dg i3n18 y32 hW hAF11n18 (WT_rngI (r := (-2147483648, 2147483647)) hW id rfl hAF11n18).1 rfl rfl (by omega)) (by omega) (Nat.zero_le _) (Nat.zero_le _) (Nat.le_of_ble_eq_true rfl) (fun r33 V33 h33 => ?_)
        obtain ⟨rfl, hW, hx33, hB33, G33, hA33, hp33, ho33⟩ := h33
        obtain ⟨hN33, hv33⟩ := WT_rngI (r := (-2147483648, 2147483647)) hW id rfl hA33
        clear hN33
        have he := he.trans (hx33.sub (jsub_of rfl))
        have ha0 := ha0.mono hx33.1
        have hb_dg := hb_dg.mono hx33.1
        have hO_a0 := hx33.2 _ _ hO_a0 (jnot_of rfl)
        have hK_a0 := hK_a0.mono hx33.1
        · refine J_iload_n dX5_takeApart_36 rfl ?_
          refine J_aload_n dX5_takeApart_37 rfl ?_
          refine J_get jf_X5_40 dX5_takeApart_38 hO_a0 hF_b ?_
          refine Jz_idivC jEq.rf jEq.rf dX5_takeApart_41 (by omega) (by omega) (fun y41 he41 => ?_)
          refine J_istore_n dX5_takeApart_42 rfl (by decide) ?_
          refine Jz_iinc (-1) dX5_takeApart_43 rfl rfl (by decide) jEq.rf (by decide) (by omega) (by omega) (fun y43 he43 => ?_)
          refine J_goto (tgt := 18) dX5_takeApart_46 (by decide) ?_
          refine J.mask [true, true, true, true] ?_
          exact ih18 _ y41 y43 G33 hW he ha0 hb_dg hO_a0 hK_a0 hA33 (by (try simp only [he41.eq, he43.eq, true_and, and_true]) <;> omega) (by rw [he41.eq, he43.eq, hlf, show (sn.toInt - 1 - (i3n18.toInt + (-1))).toNat = (sn.toInt - 1 - i3n18.toInt).toNat + 1 by omega]; exact jdv_step (by omega)) (fun i h1 h2 => by rw [he43.eq] at h1; by_cases c : (i : Int) = i3n18.toInt; (have e : i = i3n18.toInt.toNat := by omega); subst e; rw [hp33 (by omega), he32.eq, hlf]; exact jdv_dig (by omega) (by omega); rw [ho33 i (by omega)]; exact hrw i (by omega) h2) (by (try simp only [he41.eq, he43.eq, true_and, and_true]) <;> omega)
  refine J.mask [true, true, true, true] ?_
  exact L18 _ _ x1 y16 DG hW he ha0 hb_dg hO_a0 hK_a0 ha_DG (by (try simp only [he16.eq, true_and, and_true]) <;> omega) (by rw [he16.eq, show (sn.toInt - 1 - (sn.toInt - 1)).toNat = 0 by omega, Nat.pow_zero, Nat.div_one]; exact (Int.toNat_of_nonneg (by omega)).symm) (fun i h1 h2 => by rw [he16.eq] at h1; omega) (Nat.lt_succ_self _)
set_option maxRecDepth 100000 in
set_option maxHeartbeats 8000000 in
theorem w_X5_numberTurned_z {tS : jTS} (d : Nat) (V0 : jH) (a0 : Nat) (x1 : Int32) (x2 : Int32) (g : Int32) (sn : Int32) (b : Int32) (dg : Nat) (DG : Nat → Int32) (hd : 2 ≤ d) (hW : WT V0) (ha0 : jis V0 (.inr 3) a0) (hf_g : jfI V0 a0 3 0 g) (hf_sn : jfI V0 a0 3 1 sn) (hf_b : jfI V0 a0 3 2 b) (hr_dg : jfR V0 a0 3 5 dg) (ha_DG : V0 dg = some (.inl (11, 6, .inl DG))) (hp0 : 0 ≤ g.toInt) (hp1 : g.toInt ≤ 3) (hp2 : b.toInt = jdir g.toInt) (hp3 : 1 ≤ sn.toInt) (hp4 : sn.toInt ≤ 6) (hp5 : 0 ≤ x1.toInt) (hp6 : x1.toInt < sn.toInt) (hp7 : 0 ≤ x2.toInt) (hp8 : x2.toInt < jtur g.toInt) (hp9 : ∀ i : Nat, (i : Int) < sn.toInt → 0 ≤ (DG i).toInt ∧ (DG i).toInt < jdir g.toInt) : jTot tS mX5_numberTurned d [.ref a0, .int x1, .int x2] V0 0 0 (fun r V => (fun r _ => ∃ y : Int32, r = some (.int y) ∧ ((-2147483648) ≤ y.toInt) ∧ (y.toInt ≤ 2147483647) ∧ (y.toInt = ((jnm (jdir g.toInt).toNat (jTp g.toInt x2.toInt x1.toInt (fun q => (DG q).toInt)) sn.toInt.toNat : Nat) : Int))) r V ∧ V = V0) := by
  refine jTot.of_J [some (.ref a0), some (.int x1), some (.int x2), none, none, none] moX5_numberTurned (Nat.le_of_ble_eq_true rfl) rfl ?_
  have hrx1 := j_rng x1
  have hrx2 := j_rng x2
  have he : jeff [] V0 V0 := jeff.refl _ _
  obtain ⟨fs_a0, hO_a0, hK_a0⟩ := WT_obj hW id ha0
  have hF_g := hf_g.get hO_a0
  have hrg : (-2147483648) ≤ g.toInt ∧ g.toInt ≤ 2147483647 := jok_rngI hK_a0 rfl hF_g
  have hF_sn := hf_sn.get hO_a0
  have hrsn : 0 ≤ sn.toInt ∧ sn.toInt ≤ 6 := jok_rngI hK_a0 rfl hF_sn
  have hF_b := hf_b.get hO_a0
  have hrb : (-2147483648) ≤ b.toInt ∧ b.toInt ≤ 2147483647 := jok_rngI hK_a0 rfl hF_b
  have hF_dg := hr_dg.get hO_a0
  obtain ⟨w_dg, hFq_dg, b_dg, hbq_dg, hb_dg⟩ := hK_a0.2 5 (.inr (some (.inl 11))) rfl
  cases hF_dg.symm.trans (hFq_dg.trans (congrArg some hbq_dg))
  obtain ⟨hN_DG, hv_DG⟩ := WT_rngI (r := ((-2147483648), 2147483647)) hW id rfl ha_DG
  clear hN_DG
  have hjb : 3 ≤ jdir g.toInt ∧ jdir g.toInt ≤ 6 := by have q := jdir_cases g.toInt; omega
  have htt := jTp_rng (T := (fun q => (DG q).toInt)) (g := g.toInt) (n := sn.toInt) (t := x2.toInt) (k := x1.toInt) ⟨hp0, hp1⟩ ⟨hp7, hp8⟩ hp9
  have hDn : (((jdir g.toInt).toNat : Nat) : Int) = jdir g.toInt := Int.toNat_of_nonneg (by omega)
  refine Jz_iconst 0 dX5_numberTurned_0 (by decide) (fun y0 he0 => ?_)
  refine J_istore_n dX5_numberTurned_1 rfl (by decide) ?_
  refine Jz_iconst 0 dX5_numberTurned_2 (by decide) (fun y2 he2 => ?_)
  refine J_istore dX5_numberTurned_3 rfl (by decide) ?_
  have L5 : ∀ (N : Nat) (i3n5 : Int32) (i4n5 : Int32), (0 ≤ i4n5.toInt ∧ i4n5.toInt ≤ sn.toInt) → (i3n5.toInt = ((jnm (jdir g.toInt).toNat (jTp g.toInt x2.toInt x1.toInt (fun q => (DG q).toInt)) i4n5.toInt.toNat : Nat) : Int)) → (300 - i4n5.toInt).toNat < N → J tS mX5_numberTurned d 5 [some (.ref a0), some (.int x1), some (.int x2), some (.int i3n5), some (.int i4n5), none] [] V0 0 0 (fun r V => (fun r _ => ∃ y : Int32, r = some (.int y) ∧ ((-2147483648) ≤ y.toInt) ∧ (y.toInt ≤ 2147483647) ∧ (y.toInt = ((jnm (jdir g.toInt).toNat (jTp g.toInt x2.toInt x1.toInt (fun q => (DG q).toInt)) sn.toInt.toNat : Nat) : Int))) r V ∧ V = V0) := by
    intro N
    induction N with
    | zero => intro i3n5 i4n5  hi4 hnm hm; exact absurd hm (Nat.not_lt_zero _)
    | succ N ih =>
      intro i3n5 i4n5  hi4 hnm hm
      have ih5 := ih
      have hri4 := j_rng i4n5
      refine J_iload dX5_numberTurned_5 rfl ?_
      refine J_aload_n dX5_numberTurned_7 rfl ?_
      refine J_get jf_X5_31 dX5_numberTurned_8 hO_a0 hF_sn ?_
      refine Jz_icmp_ge (tgt := 60) jEq.rf jEq.rf dX5_numberTurned_11 (by decide) (fun c11 => ?_) (fun c11 => ?_)
      · refine J_iload_n dX5_numberTurned_60 rfl ?_
        exact J_ret (r := some (.int _)) dX5_numberTurned_61 ⟨rfl, _, rfl, rfl⟩ (⟨⟨_, rfl, (j_rng _).1, (j_rng _).2, (by rw [hnm, show i4n5.toInt.toNat = sn.toInt.toNat by omega])⟩, rfl⟩)
      · refine J_aload_n dX5_numberTurned_14 rfl ?_
        refine J_get jf_X5_9 dX5_numberTurned_15 hO_a0 hF_dg ?_
        refine J_iload dX5_numberTurned_18 rfl ?_
        refine J_callSN2 moX6_cell (host := "WalkGrounds") (List.mem_of_getElem? (i := 7) rfl) jw_st_X6_cell dX5_numberTurned_20 (w_X6_cell_x (d - 1) _ dg i4n5 ha_DG (WT_rngI (r := (-2147483648, 2147483647)) hW id rfl ha_DG).1 rfl (by omega) (by omega)) (by omega) (Nat.zero_le _) (Nat.zero_le _) (Nat.le_of_ble_eq_true rfl) (fun r20 V20 h20 => ?_)
        obtain ⟨⟨y20, rfl, hf20⟩, hE20⟩ := h20
        have hE20 := hE20.symm
        subst hE20
        have hz20 : jEq y20.toInt (DG (i4n5.toInt).toNat).toInt := by rw [← hf20]; rfl
        clear hf20
        · refine J_istore dX5_numberTurned_23 rfl (by decide) ?_
          have hvt := htt i4n5.toInt.toNat (by omega)
          have hsd := hp9 i4n5.toInt.toNat (by omega)
          have hlt := jnm_lt (D := (jdir g.toInt).toNat) (T := (jTp g.toInt x2.toInt x1.toInt (fun q => (DG q).toInt))) i4n5.toInt.toNat (fun i hi => by have q := htt i (by omega); omega)
          have hp5 := jpow5 (D := (jdir g.toInt).toNat) (k := i4n5.toInt.toNat) (by omega) (by omega)
          have hn7 : 0 ≤ i3n5.toInt ∧ i3n5.toInt ≤ 7776 := by omega
          have hq9 : 0 ≤ i3n5.toInt * b.toInt ∧ i3n5.toInt * b.toInt ≤ 46656 := ⟨Int.mul_nonneg (by omega) (by omega), Int.le_trans (Int.mul_le_mul hn7.2 (show b.toInt ≤ 6 by omega) (by omega) (by decide)) (by decide)⟩
          refine J_iload_n dX5_numberTurned_25 rfl ?_
          refine J_aload_n dX5_numberTurned_26 rfl ?_
          refine J_get jf_X5_40 dX5_numberTurned_27 hO_a0 hF_b ?_
          refine Jz_imul jEq.rf jEq.rf dX5_numberTurned_30 (by omega) (by omega) (fun y30 he30 => ?_)
          refine J_iload dX5_numberTurned_31 rfl ?_
          refine J_iload_n dX5_numberTurned_33 rfl ?_
          have K52 : ∀ (t0k52 : Int32), (t0k52.toInt = jTp g.toInt x2.toInt x1.toInt (fun q => (DG q).toInt) i4n5.toInt.toNat) → J tS mX5_numberTurned d 52 [some (.ref a0), some (.int x1), some (.int x2), some (.int i3n5), some (.int i4n5), some (.int y20)] [.int t0k52, .int y30] V0 0 0 (fun r V => (fun r _ => ∃ y : Int32, r = some (.int y) ∧ ((-2147483648) ≤ y.toInt) ∧ (y.toInt ≤ 2147483647) ∧ (y.toInt = ((jnm (jdir g.toInt).toNat (jTp g.toInt x2.toInt x1.toInt (fun q => (DG q).toInt)) sn.toInt.toNat : Nat) : Int))) r V ∧ V = V0) := by
            intro  t0k52     hk52_0
            refine Jz_iadd he30 jEq.rf dX5_numberTurned_52 (by omega) (by omega) (fun y52 he52 => ?_)
            refine J_istore_n dX5_numberTurned_53 rfl (by decide) ?_
            refine Jz_iinc 1 dX5_numberTurned_54 rfl rfl (by decide) jEq.rf (by decide) (by omega) (by omega) (fun y54 he54 => ?_)
            refine J_goto (tgt := 5) dX5_numberTurned_57 (by decide) ?_
            refine J.mask [true, true, true, true, true, false] ?_
            exact ih5  y52 y54  (by (try simp only [he52.eq, he54.eq, true_and, and_true]) <;> omega) (by rw [he52.eq, he54.eq, show (i4n5.toInt + 1).toNat = i4n5.toInt.toNat + 1 by omega, hk52_0, hnm, hp2]; exact jnm_next hDn hvt.1) (by (try simp only [he52.eq, he54.eq, true_and, and_true]) <;> omega)
          refine Jz_icmp_ge (tgt := 42) jEq.rf jEq.rf dX5_numberTurned_34 (by decide) (fun c34 => ?_) (fun c34 => ?_)
          · refine J_aload_n dX5_numberTurned_42 rfl ?_
            refine J_get jf_X5_19 dX5_numberTurned_43 hO_a0 hF_g ?_
            refine J_iload_n dX5_numberTurned_46 rfl ?_
            refine J_iload dX5_numberTurned_47 rfl ?_
            refine J_callS3 moX0_turned jw_ml_X5_87 jw_st_X0_turned dX5_numberTurned_49 (w_X0_turned_z (d - 1) _ g x2 y20 (by omega)   (by omega) (by omega) (by omega) (by omega) (by (try simp only [hz20.eq, true_and, and_true]) <;> omega) (by (try simp only [hz20.eq, true_and, and_true]) <;> omega)) (by omega) (Nat.zero_le _) (Nat.zero_le _) (Nat.le_of_ble_eq_true rfl) (fun r49 V49 h49 => ?_)
            obtain ⟨⟨y49, rfl, hl49, hh49, hP49_0⟩, hE49⟩ := h49
            have hE49 := hE49.symm
            subst hE49
            clear hl49 hh49
            try simp only [hz20.eq] at hP49_0
            have hz49 : jEq y49.toInt (jtn (g.toInt) (x2.toInt) ((DG (i4n5.toInt).toNat).toInt)) := hP49_0
            clear hP49_0
            exact K52  y49  (by unfold jTp; rw [if_neg (by omega)]; exact hz49.eq)
          · refine J_iload dX5_numberTurned_37 rfl ?_
            refine J_goto (tgt := 52) dX5_numberTurned_39 (by decide) ?_
            exact K52  y20  (by unfold jTp; rw [if_pos (by omega)]; exact hz20.eq)
  refine J.mask [true, true, true, true, true, false] ?_
  exact L5 _  y0 y2    (by (try simp only [he0.eq, he2.eq, true_and, and_true]) <;> omega) (by rw [he0.eq, he2.eq]; rfl) (Nat.lt_succ_self _)
set_option maxRecDepth 100000 in
set_option maxHeartbeats 8000000 in
theorem w_X5_markWalks_z {tS : jTS} : ∀ (K d : Nat) (V0 : jH) (a0 : Nat) (a1 : Nat) (x2 : Int32) (x3 : Int32) (sn : Int32) (b : Int32) (M : Int32) (g : Int32) (n : Int32) (st : Nat) (s : Nat) (xx : Nat) (yy : Nat) (zz : Nat) (R : Nat) (ST : Nat → Int32) (S : Nat → Int32) (X : Nat → Int32) (Y : Nat → Int32) (Z : Nat → Int32), 4 + K ≤ d → WT V0 → (jis V0 (.inr 3) a0) → (jis V0 (.inr 1) a1) → (0 ≤ x2.toInt) → (x2.toInt ≤ 6) → (jfI V0 a0 3 1 sn) → (jfI V0 a0 3 2 b) → (jfI V0 a1 1 0 M) → (jfI V0 a1 1 5 g) → (jfI V0 a1 1 6 n) → (jfR V0 a0 3 3 st) → (jfR V0 a1 1 1 s) → (jfR V0 a1 1 2 xx) → (jfR V0 a1 1 3 yy) → (jfR V0 a1 1 4 zz) → (V0 st = some (.inl (3, R, .inl ST))) → (V0 s = some (.inl (6, 120, .inl S))) → (V0 xx = some (.inl (34, 121, .inl X))) → (V0 yy = some (.inl (35, 121, .inl Y))) → (V0 zz = some (.inl (36, 121, .inl Z))) → (M.toInt = 120) → (0 ≤ g.toInt) → (g.toInt ≤ 3) → (b.toInt = jdir g.toInt) → (n.toInt = x2.toInt) → (x2.toInt ≤ sn.toInt) → (sn.toInt ≤ 6) → (0 ≤ x3.toInt) → ((R : Int) ≤ 10000) → (R = (jdir g.toInt).toNat ^ sn.toInt.toNat) → (x3.toInt.toNat < (jdir g.toInt).toNat ^ x2.toInt.toNat) → (∀ i : Nat, (i : Int) < x2.toInt → (S i).toInt = jdg9 (jdir g.toInt).toNat x2.toInt.toNat x3.toInt.toNat i) → (jrv g.toInt (fun q => (S q).toInt) n.toInt.toNat X Y Z) → (jav g.toInt (fun q => (S q).toInt) n.toInt.toNat) → (7 - x2.toInt).toNat < K → jTot tS mX5_markWalks d [.ref a0, .ref a1, .int x2, .int x3] V0 0 0 (fun r V => (jPost [.inr 1, .inl 6, .inl 34, .inl 35, .inl 36, .inl 3] V0 rV) r V ∧ (∃ ST2 S2 X2 Y2 Z2 : Nat → Int32, V st = some (.inl (3, R, .inl ST2)) ∧ V s = some (.inl (6, 120, .inl S2)) ∧ V xx = some (.inl (34, 121, .inl X2)) ∧ V yy = some (.inl (35, 121, .inl Y2)) ∧ V zz = some (.inl (36, 121, .inl Z2)) ∧ (∀ j : Nat, (j : Int) < n.toInt → S2 j = S j) ∧ (∀ j : Nat, (j : Int) ≤ n.toInt → X2 j = X j ∧ Y2 j = Y j ∧ Z2 j = Z j) ∧ jmw g.toInt (jdir g.toInt).toNat sn.toInt.toNat (sn.toInt - x2.toInt).toNat x3.toInt.toNat (x3.toInt.toNat + 1) ST ST2) ∧ jrk a1 V0 V ∧ jfp [a1, s, xx, yy, zz, st] V0 V ∧ (∃ n2 : Int32, jfI V a1 1 6 n2 ∧ (n2.toInt = n.toInt)) ∧ (∃ M2 : Int32, jfI V a1 1 0 M2 ∧ (M2.toInt = M.toInt)) ∧ (∃ g2 : Int32, jfI V a1 1 5 g2 ∧ (g2.toInt = g.toInt))) := by
  intro K
  induction K with
  | zero => intro d V0 a0 a1 x2 x3 sn b M g n st s xx yy zz R ST S X Y Z hd hW ha0 ha1 hl2 hh2 hf_sn hf_b hf_M hf_g hf_n hr_st hr_s hr_xx hr_yy hr_zz ha_ST ha_S ha_X ha_Y ha_Z hp0 hp1 hp2 hp3 hp4 hp5 hp6 hp7 hp8 hp9 hp10 hp11 hp12 hp13 hrk; exact absurd hrk (Nat.not_lt_zero _)
  | succ K IH =>
  intro d V0 a0 a1 x2 x3 sn b M g n st s xx yy zz R ST S X Y Z hd hW ha0 ha1 hl2 hh2 hf_sn hf_b hf_M hf_g hf_n hr_st hr_s hr_xx hr_yy hr_zz ha_ST ha_S ha_X ha_Y ha_Z hp0 hp1 hp2 hp3 hp4 hp5 hp6 hp7 hp8 hp9 hp10 hp11 hp12 hp13 hrk
  refine jTot.of_J [some (.ref a0), some (.ref a1), some (.int x2), some (.int x3), none] moX5_markWalks (Nat.le_of_ble_eq_true rfl) rfl ?_
  have hrx3 := j_rng x3
  have he : jeff [.inr 1, .inl 6, .inl 34, .inl 35, .inl 36, .inl 3] V0 V0 := jeff.refl _ _
  have hfp : jfp [a1, s, xx, yy, zz, st] V0 V0 := jfp.rf
  obtain ⟨fs_a0, hO_a0, hK_a0⟩ := WT_obj hW id ha0
  obtain ⟨fs_a1, hO_a1, hK_a1⟩ := WT_obj hW id ha1
  have hF_sn := hf_sn.get hO_a0
  have hrsn : 0 ≤ sn.toInt ∧ sn.toInt ≤ 6 := jok_rngI hK_a0 rfl hF_sn
  have hF_b := hf_b.get hO_a0
  have hrb : (-2147483648) ≤ b.toInt ∧ b.toInt ≤ 2147483647 := jok_rngI hK_a0 rfl hF_b
  have hF_M := hf_M.get hO_a1
  have hrM : 0 ≤ M.toInt ∧ M.toInt ≤ 120 := jok_rngI hK_a1 rfl hF_M
  have hF_g := hf_g.get hO_a1
  have hrg : (-2147483648) ≤ g.toInt ∧ g.toInt ≤ 2147483647 := jok_rngI hK_a1 rfl hF_g
  have hF_n := hf_n.get hO_a1
  have hrn : 0 ≤ n.toInt ∧ n.toInt ≤ 120 := jok_rngI hK_a1 rfl hF_n
  have hF_st := hr_st.get hO_a0
  obtain ⟨w_st, hFq_st, b_st, hbq_st, hb_st⟩ := hK_a0.2 3 (.inr (some (.inl 3))) rfl
  cases hF_st.symm.trans (hFq_st.trans (congrArg some hbq_st))
  have hF_s := hr_s.get hO_a1
  obtain ⟨w_s, hFq_s, b_s, hbq_s, hb_s⟩ := hK_a1.2 1 (.inr (some (.inl 6))) rfl
  cases hF_s.symm.trans (hFq_s.trans (congrArg some hbq_s))
  have hF_xx := hr_xx.get hO_a1
  obtain ⟨w_xx, hFq_xx, b_xx, hbq_xx, hb_xx⟩ := hK_a1.2 2 (.inr (some (.inl 34))) rfl
  cases hF_xx.symm.trans (hFq_xx.trans (congrArg some hbq_xx))
  have hF_yy := hr_yy.get hO_a1
  obtain ⟨w_yy, hFq_yy, b_yy, hbq_yy, hb_yy⟩ := hK_a1.2 3 (.inr (some (.inl 35))) rfl
  cases hF_yy.symm.trans (hFq_yy.trans (congrArg some hbq_yy))
  have hF_zz := hr_zz.get hO_a1
  obtain ⟨w_zz, hFq_zz, b_zz, hbq_zz, hb_zz⟩ := hK_a1.2 4 (.inr (some (.inl 36))) rfl
  cases hF_zz.symm.trans (hFq_zz.trans (congrArg some hbq_zz))
  obtain ⟨hN_ST, hv_ST⟩ := WT_rngI (r := ((-128), 127)) hW id rfl ha_ST
  clear hN_ST
  obtain ⟨hN_S, hv_S⟩ := WT_rngI (r := ((-2147483648), 2147483647)) hW id rfl ha_S
  clear hN_S
  obtain ⟨hN_X, hv_X⟩ := WT_rngI (r := ((-2147483648), 2147483647)) hW id rfl ha_X
  clear hN_X
  obtain ⟨hN_Y, hv_Y⟩ := WT_rngI (r := ((-2147483648), 2147483647)) hW id rfl ha_Y
  clear hN_Y
  obtain ⟨hN_Z, hv_Z⟩ := WT_rngI (r := ((-2147483648), 2147483647)) hW id rfl ha_Z
  clear hN_Z
  have ha0_S := ha_S
  have ha0_X := ha_X
  have ha0_Y := ha_Y
  have ha0_Z := ha_Z
  have ha0_ST := ha_ST
  have hjb : 3 ≤ jdir g.toInt ∧ jdir g.toInt ≤ 6 := by have q := jdir_cases g.toInt; omega
  have hDn : (((jdir g.toInt).toNat : Nat) : Int) = jdir g.toInt := Int.toNat_of_nonneg (by omega)
  have hD0 : 0 < (jdir g.toInt).toNat := by omega
  refine J_iload_n dX5_markWalks_0 rfl ?_
  refine J_aload_n dX5_markWalks_1 rfl ?_
  refine J_get jf_X5_31 dX5_markWalks_2 hO_a0 hF_sn ?_
  refine Jz_icmp_ge (tgt := 14) jEq.rf jEq.rf dX5_markWalks_5 (by decide) (fun c5 => ?_) (fun c5 => ?_)
  · have hx2e : x2.toInt = sn.toInt := by omega
    have hxR : x3.toInt < (R : Int) := by have q := hp10; rw [hx2e, ← hp9] at q; omega
    have hwk : jwlk g.toInt (jdir g.toInt).toNat sn.toInt.toNat x3.toInt.toNat := by
      have q := hp13.congr (U := jdg9 (jdir g.toInt).toNat x2.toInt.toNat x3.toInt.toNat) (fun k hk => hp11 k (by omega))
      rw [show n.toInt.toNat = x2.toInt.toNat by omega, hx2e] at q
      exact q
    refine J_iload_n dX5_markWalks_14 rfl ?_
    refine Jz_if_lt (tgt := 34) jEq.rf dX5_markWalks_15 (by decide) (fun c15 => (show False by omega).elim) (fun c15 => ?_)
    refine J_iload_n dX5_markWalks_18 rfl ?_
    refine J_aload_n dX5_markWalks_19 rfl ?_
    refine J_get jf_X5_43 dX5_markWalks_20 hO_a0 hF_st ?_
    refine J_alen dX5_markWalks_23 ha_ST rfl rfl ?_
    have he23 : jEq (Int32.ofNat R).toInt R := nI_toInt (by omega)
    generalize Int32.ofNat R = y23 at he23 ⊢
    refine Jz_icmp_ge (tgt := 34) jEq.rf he23 dX5_markWalks_24 (by decide) (fun c24 => (show False by omega).elim) (fun c24 => ?_)
    refine J_aload_n dX5_markWalks_27 rfl ?_
    refine J_get jf_X5_43 dX5_markWalks_28 hO_a0 hF_st ?_
    refine J_iload_n dX5_markWalks_31 rfl ?_
    refine Jz_iconst 1 dX5_markWalks_32 (by decide) (fun y32 he32 => ?_)
    refine Jz_bastB (r := ((-128), 127)) jEq.rf he32 hW id dX5_markWalks_33 ha_ST rfl rfl (by omega) (by omega) (by omega) (by omega) (fun q h => by rw [jI_inj.mp (show q.toInt = (1 : Int32).toInt from h)]; rfl) (fun V33 G33 hW hx33 hA33 hp33 ho33 hB33 => ?_)
    obtain ⟨hN33, hv33⟩ := WT_rngI (r := ((-128), 127)) hW id rfl hA33
    clear hN33
    have he := he.trans (hx33.sub (jsub_of rfl))
    have hfp := hfp.trans (jfp.one hB33 (List.mem_cons_of_mem _ (List.mem_cons_of_mem _ (List.mem_cons_of_mem _ (List.mem_cons_of_mem _ (List.mem_cons_of_mem _ List.mem_cons_self))))))
    have ha0 := ha0.mono hx33.1
    have ha1 := ha1.mono hx33.1
    have hb_st := hb_st.mono hx33.1
    have hb_s := hb_s.mono hx33.1
    have hb_xx := hb_xx.mono hx33.1
    have hb_yy := hb_yy.mono hx33.1
    have hb_zz := hb_zz.mono hx33.1
    have hO_a0 := hx33.2 _ _ hO_a0 (jnot_of rfl)
    have hK_a0 := hK_a0.mono hx33.1
    have hO_a1 := hx33.2 _ _ hO_a1 (jnot_of rfl)
    have hK_a1 := hK_a1.mono hx33.1
    have ha_S := hx33.2 _ _ ha_S (jnot_of rfl)
    have ha_X := hx33.2 _ _ ha_X (jnot_of rfl)
    have ha_Y := hx33.2 _ _ ha_Y (jnot_of rfl)
    have ha_Z := hx33.2 _ _ ha_Z (jnot_of rfl)
    exact J_ret (r := none) dX5_markWalks_34 ⟨rfl, rfl⟩ (⟨⟨hW, he, rfl⟩, ⟨G33, S, X, Y, Z, hA33, ha_S, ha_X, ha_Y, ha_Z, fun _ _ => rfl, fun _ _ => ⟨rfl, rfl, rfl⟩, (by rw [show (sn.toInt - x2.toInt).toNat = 0 by omega]; exact jmw.leaf hwk (by rw [hp33, he32.eq]) ho33)⟩, (jrk.mk2 hr_s hr_xx hr_yy hr_zz (fun b9 e9 hb9 h9 hk9 => (hfp b9 (fun z => (jmem6 z).elim hb9 (fun w => by rw [w, ha0_ST] at h9; cases h9; exact absurd hk9 (jnot_of rfl)))).trans h9) hf_M ⟨_, hO_a1, hF_M⟩ (jk1.mk ha0_S ha_S) (jk0.mk ha0_X ha_X rfl) (jk0.mk ha0_Y ha_Y rfl) (jk0.mk ha0_Z ha_Z rfl)), hfp, ⟨_, ⟨_, hO_a1, hF_n⟩, (by omega)⟩, ⟨_, ⟨_, hO_a1, hF_M⟩, (by omega)⟩, ⟨_, ⟨_, hO_a1, hF_g⟩, (by omega)⟩⟩)
  · refine J_iload_n dX5_markWalks_8 rfl ?_
    refine Jz_bipush 6 dX5_markWalks_9 (by decide) (fun y9 he9 => ?_)
    refine Jz_icmp_lt (tgt := 35) jEq.rf he9 dX5_markWalks_11 (by decide) (fun c11 => ?_) (fun c11 => (show False by omega).elim)
    refine Jz_iconst 0 dX5_markWalks_35 (by decide) (fun y35 he35 => ?_)
    refine J_istore dX5_markWalks_36 rfl (by decide) ?_
    have L38 : ∀ (N : Nat) (V : jH) (i4n38 : Int32) (gs38a1 : List Value) (g6n38 : Int32) (F3n38 : Nat → Int32) (F6n38 : Nat → Int32) (F34n38 : Nat → Int32) (F35n38 : Nat → Int32) (F36n38 : Nat → Int32), WT V → jeff [.inr 1, .inl 6, .inl 34, .inl 35, .inl 36, .inl 3] V0 V → (jis V (.inr 3) a0) → (jis V (.inr 1) a1) → (jis V (.inl 3) st) → (jis V (.inl 6) s) → (jis V (.inl 34) xx) → (jis V (.inl 35) yy) → (jis V (.inl 36) zz) → (jfp [a1, s, xx, yy, zz, st] V0 V) → (V a0 = some (.inr (3, fs_a0))) → (jokO V (jFs 3) fs_a0) → (V a1 = some (.inr (1, gs38a1))) → (gs38a1[0]? = some (.int M)) → (gs38a1[5]? = some (.int g)) → (gs38a1[6]? = some (.int g6n38)) → (gs38a1[1]? = some (.ref s)) → (gs38a1[2]? = some (.ref xx)) → (gs38a1[3]? = some (.ref yy)) → (gs38a1[4]? = some (.ref zz)) → (V st = some (.inl (3, R, .inl F3n38))) → (V s = some (.inl (6, 120, .inl F6n38))) → (V xx = some (.inl (34, 121, .inl F34n38))) → (V yy = some (.inl (35, 121, .inl F35n38))) → (V zz = some (.inl (36, 121, .inl F36n38))) → (0 ≤ i4n38.toInt ∧ i4n38.toInt ≤ jdir g.toInt) → (g6n38.toInt = x2.toInt) → (∀ j : Nat, (j : Int) < x2.toInt → F6n38 j = S j) → (∀ j : Nat, (j : Int) ≤ x2.toInt → F34n38 j = X j ∧ F35n38 j = Y j ∧ F36n38 j = Z j) → (jmw g.toInt (jdir g.toInt).toNat sn.toInt.toNat (sn.toInt - x2.toInt - 1).toNat (x3.toInt.toNat * (jdir g.toInt).toNat) (x3.toInt.toNat * (jdir g.toInt).toNat + i4n38.toInt.toNat) ST F3n38) → (300 - i4n38.toInt).toNat < N → J tS mX5_markWalks d 38 [some (.ref a0), some (.ref a1), some (.int x2), some (.int x3), some (.int i4n38)] [] V 0 0 (fun r V => (jPost [.inr 1, .inl 6, .inl 34, .inl 35, .inl 36, .inl 3] V0 rV) r V ∧ (∃ ST2 S2 X2 Y2 Z2 : Nat → Int32, V st = some (.inl (3, R, .inl ST2)) ∧ V s = some (.inl (6, 120, .inl S2)) ∧ V xx = some (.inl (34, 121, .inl X2)) ∧ V yy = some (.inl (35, 121, .inl Y2)) ∧ V zz = some (.inl (36, 121, .inl Z2)) ∧ (∀ j : Nat, (j : Int) < n.toInt → S2 j = S j) ∧ (∀ j : Nat, (j : Int) ≤ n.toInt → X2 j = X j ∧ Y2 j = Y j ∧ Z2 j = Z j) ∧ jmw g.toInt (jdir g.toInt).toNat sn.toInt.toNat (sn.toInt - x2.toInt).toNat x3.toInt.toNat (x3.toInt.toNat + 1) ST ST2) ∧ jrk a1 V0 V ∧ jfp [a1, s, xx, yy, zz, st] V0 V ∧ (∃ n2 : Int32, jfI V a1 1 6 n2 ∧ (n2.toInt = n.toInt)) ∧ (∃ M2 : Int32, jfI V a1 1 0 M2 ∧ (M2.toInt = M.toInt)) ∧ (∃ g2 : Int32, jfI V a1 1 5 g2 ∧ (g2.toInt = g.toInt))) := by
      intro N
      induction N with
      | zero => intro V i4n38 gs38a1 g6n38 F3n38 F6n38 F34n38 F35n38 F36n38 hW he ha0 ha1 hb_st hb_s hb_xx hb_yy hb_zz hfp hO_a0 hK_a0 hOgs38a1 hFgs38a1_0 hFgs38a1_5 hFgs38a1_6 hFgs38a1_1 hFgs38a1_2 hFgs38a1_3 hFgs38a1_4 hAF3n38 hAF6n38 hAF34n38 hAF35n38 hAF36n38 hi4 hsz hS hXYZ hmw hm; exact absurd hm (Nat.not_lt_zero _)
      | succ N ih =>
        intro V i4n38 gs38a1 g6n38 F3n38 F6n38 F34n38 F35n38 F36n38 hW he ha0 ha1 hb_st hb_s hb_xx hb_yy hb_zz hfp hO_a0 hK_a0 hOgs38a1 hFgs38a1_0 hFgs38a1_5 hFgs38a1_6 hFgs38a1_1 hFgs38a1_2 hFgs38a1_3 hFgs38a1_4 hAF3n38 hAF6n38 hAF34n38 hAF35n38 hAF36n38 hi4 hsz hS hXYZ hmw hm
        have ih38 := ih
        have hri4 := j_rng i4n38
        have hKgs38a1 : jokO V (jFs 1) gs38a1 := hW _ _ id hOgs38a1
        have hrgg6n38 : 0 ≤ g6n38.toInt ∧ g6n38.toInt ≤ 120 := jok_rngI hKgs38a1 rfl hFgs38a1_6
        obtain ⟨hNF3n38, hvF3n38⟩ := WT_rngI (r := ((-128), 127)) hW id rfl hAF3n38
        clear hNF3n38
        obtain ⟨hNF6n38, hvF6n38⟩ := WT_rngI (r := ((-2147483648), 2147483647)) hW id rfl hAF6n38
        clear hNF6n38
        obtain ⟨hNF34n38, hvF34n38⟩ := WT_rngI (r := ((-2147483648), 2147483647)) hW id rfl hAF34n38
        clear hNF34n38
        obtain ⟨hNF35n38, hvF35n38⟩ := WT_rngI (r := ((-2147483648), 2147483647)) hW id rfl hAF35n38
        clear hNF35n38
        obtain ⟨hNF36n38, hvF36n38⟩ := WT_rngI (r := ((-2147483648), 2147483647)) hW id rfl hAF36n38
        clear hNF36n38
        refine J_iload dX5_markWalks_38 rfl ?_
        refine J_aload_n dX5_markWalks_40 rfl ?_
        refine J_get jf_X5_40 dX5_markWalks_41 hO_a0 hF_b ?_
        refine Jz_icmp_ge (tgt := 84) jEq.rf jEq.rf dX5_markWalks_44 (by decide) (fun c44 => ?_) (fun c44 => ?_)
        · exact J_ret (r := none) dX5_markWalks_84 ⟨rfl, rfl⟩ (⟨⟨hW, he, rfl⟩, ⟨F3n38, F6n38, F34n38, F35n38, F36n38, hAF3n38, hAF6n38, hAF34n38, hAF35n38, hAF36n38, fun j hj => hS j (by omega), fun j hj => hXYZ j (by omega), (by rw [show (sn.toInt - x2.toInt).toNat = (sn.toInt - x2.toInt - 1).toNat + 1 by omega]; exact jmw.up hD0 (by have q := hmw; rw [show i4n38.toInt.toNat = (jdir g.toInt).toNat by omega] at q; exact q))⟩, (jrk.mk2 hr_s hr_xx hr_yy hr_zz (fun b9 e9 hb9 h9 hk9 => (hfp b9 (fun z => (jmem6 z).elim hb9 (fun w => by rw [w, ha0_ST] at h9; cases h9; exact absurd hk9 (jnot_of rfl)))).trans h9) hf_M ⟨_, hOgs38a1, hFgs38a1_0⟩ (jk1.mk ha0_S hAF6n38) (jk0.mk ha0_X hAF34n38 ((hXYZ 0 (by omega)).1)) (jk0.mk ha0_Y hAF35n38 ((hXYZ 0 (by omega)).2.1)) (jk0.mk ha0_Z hAF36n38 ((hXYZ 0 (by omega)).2.2))), hfp, ⟨_, ⟨_, hOgs38a1, hFgs38a1_6⟩, (by omega)⟩, ⟨_, ⟨_, hOgs38a1, hFgs38a1_0⟩, (by omega)⟩, ⟨_, ⟨_, hOgs38a1, hFgs38a1_5⟩, (by omega)⟩⟩)
        · refine J_aload_n dX5_markWalks_47 rfl ?_
          refine J_iload dX5_markWalks_48 rfl ?_
          have hN9 : g6n38.toInt.toNat = x2.toInt.toNat := by rw [hsz]
          have hjv2 : jrv g.toInt (fun q => (F6n38 q).toInt) g6n38.toInt.toNat F34n38 F35n38 F36n38 := jrv.copy hp12 (by omega) (fun q hq => (congrArg Int32.toInt (hS q (by omega))).symm) (fun i hi => hXYZ i (by omega))
          have hja2 : jav g.toInt (fun q => (F6n38 q).toInt) g6n38.toInt.toNat := by
            rw [show g6n38.toInt.toNat = n.toInt.toNat by omega]
            exact hp13.congr (fun q hq => (congrArg Int32.toInt (hS q (by omega))).symm)
          have hbx := hjv2.b g6n38.toInt.toNat (Nat.le_refl _)
          have e2 : ((i4n38.toInt.toNat : Nat) : Int) = i4n38.toInt := Int.toNat_of_nonneg (by omega)
          by_cases hcc : jav g.toInt (jsat (fun q => (F6n38 q).toInt) g6n38.toInt.toNat i4n38.toInt) (g6n38.toInt.toNat + 1)
          · refine Jw_callV1 (q9 := (RX3, TX3, 7)) moX3_lay jw_ml_X5_72 jw_im_X3_lay jw_se_X3_lay ha1 rfl rfl dX5_markWalks_50 (w_X3_lay_yes (d - 1) _ a1 i4n38 M g g6n38 s xx yy zz F6n38 F34n38 F35n38 F36n38 (by omega) hW  ha1 ⟨_, hOgs38a1, hFgs38a1_0⟩ ⟨_, hOgs38a1, hFgs38a1_5⟩ ⟨_, hOgs38a1, hFgs38a1_6⟩ ⟨_, hOgs38a1, hFgs38a1_1⟩ ⟨_, hOgs38a1, hFgs38a1_2⟩ ⟨_, hOgs38a1, hFgs38a1_3⟩ ⟨_, hOgs38a1, hFgs38a1_4⟩ hAF6n38 hAF34n38 hAF35n38 hAF36n38 (by omega) (by omega) (by omega) (by omega) (by omega) (by omega) (by omega) (by omega) (by omega) (by omega) (by omega) (by omega) (by omega) (by omega) (fun j hj => (jnx_iff hjv2 hja2).mpr hcc j (by omega))) (by omega) (Nat.zero_le _) (Nat.zero_le _) (Nat.le_of_ble_eq_true rfl) (fun r50 V50 h50 => ?_)
            obtain ⟨h50, hX50_0, hX50_1, hX50_2, hX50_3, hX50_4, ⟨fv50_0, hfv50_0, hfp50_0⟩, ⟨fv50_1, hfv50_1, hfp50_1⟩, ⟨fv50_2, hfv50_2, hfp50_2⟩⟩ := h50
            obtain ⟨hW, hx50, hr50⟩ := h50
            have he := he.trans (hx50.sub (jsub_of rfl))
            have hfp := hfp.trans (hX50_4.sub (fun b hb => by simp only [List.mem_cons, List.not_mem_nil, or_false] at hb ⊢; first | (rcases hb with h9 | h9 | h9 | h9 | h9 <;> simp only [h9, true_or, or_true]) | omega))
            have ha0 := ha0.mono hx50.1
            have ha1 := ha1.mono hx50.1
            have hb_st := hb_st.mono hx50.1
            have hb_s := hb_s.mono hx50.1
            have hb_xx := hb_xx.mono hx50.1
            have hb_yy := hb_yy.mono hx50.1
            have hb_zz := hb_zz.mono hx50.1
            have hO_a0 := hx50.2 _ _ hO_a0 (jnot_of rfl)
            have hK_a0 := hK_a0.mono hx50.1
            obtain ⟨fs50a1, hOfs50a1, hRfs50a1⟩ := hx50.1.keep hOgs38a1
            have hKfs50a1 : jokO _ (jFs 1) fs50a1 := hW _ _ id hOfs50a1
            have hFfs50a1_1 := hRfs50a1 _ _ hFgs38a1_1
            have hFfs50a1_2 := hRfs50a1 _ _ hFgs38a1_2
            have hFfs50a1_3 := hRfs50a1 _ _ hFgs38a1_3
            have hFfs50a1_4 := hRfs50a1 _ _ hFgs38a1_4
            have hAF3n38 := hx50.2 _ _ hAF3n38 (jnot_of rfl)
            obtain ⟨y50, rfl, hl50, hh50, hP50_0⟩ := hr50
            have hFv50_0 := hfv50_0.get hOfs50a1
            have hzf50_0 : jEq fv50_0.toInt ((g6n38.toInt) + 1) := hfp50_0
            clear hfp50_0
            have hFv50_1 := hfv50_1.get hOfs50a1
            have hsb50_1 : M = fv50_1 := (jI_inj.mp hfp50_1).symm
            subst hsb50_1
            have hFv50_2 := hfv50_2.get hOfs50a1
            have hsb50_2 : g = fv50_2 := (jI_inj.mp hfp50_2).symm
            subst hsb50_2
            obtain ⟨S50, hS50, hSn50, hSo50⟩ := hX50_0
            obtain ⟨X50, hXa50, hXn50, hXo50⟩ := hX50_1
            obtain ⟨Y50, hYa50, hYn50, hYo50⟩ := hX50_2
            obtain ⟨Z50, hZa50, hZn50, hZo50⟩ := hX50_3
            have hlk := jlay_ok hjv2 hSn50 hSo50 hXn50 hYn50 hZn50 hXo50 hYo50 hZo50
            have hsq : ∀ q : Nat, q < x2.toInt.toNat + 1 → jsat (fun q => (S q).toInt) x2.toInt.toNat i4n38.toInt q = (S50 q).toInt := fun q hq => by
              by_cases c : q = x2.toInt.toNat
              · rw [c, jsat_at, ← hN9, hSn50]
              · rw [jsat_ne c]
                show (S q).toInt = (S50 q).toInt
                rw [hSo50 q (by omega), hS q (by omega)]
            have hjc : jav g.toInt (jsat (fun q => (S q).toInt) x2.toInt.toNat i4n38.toInt) (x2.toInt.toNat + 1) := by
              have q := hcc
              rw [hN9] at q
              exact q.congr (jsat_congr (fun q hq => congrArg Int32.toInt (hS q (by omega))))
            obtain ⟨hN_S50, hv_S50⟩ := WT_rngI (r := ((-2147483648), 2147483647)) hW id rfl hS50
            clear hN_S50
            obtain ⟨hN_X50, hv_X50⟩ := WT_rngI (r := ((-2147483648), 2147483647)) hW id rfl hXa50
            clear hN_X50
            obtain ⟨hN_Y50, hv_Y50⟩ := WT_rngI (r := ((-2147483648), 2147483647)) hW id rfl hYa50
            clear hN_Y50
            obtain ⟨hN_Z50, hv_Z50⟩ := WT_rngI (r := ((-2147483648), 2147483647)) hW id rfl hZa50
            clear hN_Z50
            refine Jz_if_eq (tgt := 78) jEq.rf dX5_markWalks_53 (by decide) (fun c53 => (show False by omega).elim) (fun c53 => ?_)
            refine J_aload_n dX5_markWalks_56 rfl ?_
            refine J_aload_n dX5_markWalks_57 rfl ?_
            refine J_iload_n dX5_markWalks_58 rfl ?_
            refine Jz_iconst 1 dX5_markWalks_59 (by decide) (fun y59 he59 => ?_)
            refine Jz_iadd jEq.rf he59 dX5_markWalks_60 (by omega) (by omega) (fun y60 he60 => ?_)
            refine J_iload_n dX5_markWalks_61 rfl ?_
            refine J_aload_n dX5_markWalks_62 rfl ?_
            have hp5b := jpow5 (D := (jdir g.toInt).toNat) (k := x2.toInt.toNat) (by omega) (by omega)
            have hq9 : 0 ≤ x3.toInt * b.toInt ∧ x3.toInt * b.toInt ≤ 46656 := ⟨Int.mul_nonneg (by omega) (by omega), Int.le_trans (Int.mul_le_mul (show x3.toInt ≤ 7776 by omega) (show b.toInt ≤ 6 by omega) (by omega) (by decide)) (by decide)⟩
            have hpq : (x3.toInt * b.toInt + i4n38.toInt).toNat = x3.toInt.toNat * (jdir g.toInt).toNat + i4n38.toInt.toNat := by rw [hp3]; exact jpd_nat (by omega) (by omega) (by omega)
            refine J_get jf_X5_40 dX5_markWalks_63 hO_a0 hF_b ?_
            refine Jz_imul jEq.rf jEq.rf dX5_markWalks_66 (by omega) (by omega) (fun y66 he66 => ?_)
            refine J_iload dX5_markWalks_67 rfl ?_
            refine Jz_iadd he66 jEq.rf dX5_markWalks_69 (by omega) (by omega) (fun y69 he69 => ?_)
            have hpn : y69.toInt.toNat = x3.toInt.toNat * (jdir g.toInt).toNat + i4n38.toInt.toNat := by rw [he69.eq]; exact hpq
            refine J_callS4 moX5_markWalks jw_ml_X5_56 jw_st_X5_markWalks dX5_markWalks_70 (IH (d - 1) _ a0 a1 y60 y69 sn b M g fv50_0 st s xx yy zz R F3n38 S50 X50 Y50 Z50 (by omega) hW ha0 ha1 (by (try simp only [he60.eq, true_and, and_true]) <;> omega) (by (try simp only [he60.eq, true_and, and_true]) <;> omega) ⟨_, hO_a0, hF_sn⟩ ⟨_, hO_a0, hF_b⟩ ⟨_, hOfs50a1, hFv50_1⟩ ⟨_, hOfs50a1, hFv50_2⟩ ⟨_, hOfs50a1, hFv50_0⟩ ⟨_, hO_a0, hF_st⟩ ⟨_, hOfs50a1, hFfs50a1_1⟩ ⟨_, hOfs50a1, hFfs50a1_2⟩ ⟨_, hOfs50a1, hFfs50a1_3⟩ ⟨_, hOfs50a1, hFfs50a1_4⟩ hAF3n38 hS50 hXa50 hYa50 hZa50 (by omega) (by omega) (by omega) (by omega) (by rw [hzf50_0.eq, he60.eq]; omega) (by rw [he60.eq]; omega) (by omega) (by rw [he69.eq]; omega) (by omega) hp9 (by rw [hpn, he60.eq, show (x2.toInt + 1).toNat = x2.toInt.toNat + 1 by omega]; exact jpd_lt hp10 (by omega)) (fun i hi => by rw [he60.eq] at hi; rw [hpn, he60.eq, show (x2.toInt + 1).toNat = x2.toInt.toNat + 1 by omega]; by_cases c : i = x2.toInt.toNat; (rw [c, ← hN9, hSn50, hN9, jdg9_lo (by omega)]; exact e2.symm); (rw [hSo50 i (by omega), hS i (by omega), hp11 i (by omega)]; exact (jdg9_up (by omega) (by omega)).symm)) (by rw [hzf50_0.eq, show (g6n38.toInt + 1).toNat = g6n38.toInt.toNat + 1 by omega]; exact hlk.1) (by rw [hzf50_0.eq, show (g6n38.toInt + 1).toNat = x2.toInt.toNat + 1 by omega]; exact hjc.congr hsq) (by (try simp only [he60.eq, he69.eq, hzf50_0.eq, true_and, and_true]) <;> omega)) (by omega) (Nat.zero_le _) (Nat.zero_le _) (Nat.le_of_ble_eq_true rfl) (fun r70 V70 h70 => ?_)
            obtain ⟨h70, hX70_0, hX70_1, hX70_2, ⟨fv70_0, hfv70_0, hfp70_0⟩, ⟨fv70_1, hfv70_1, hfp70_1⟩, ⟨fv70_2, hfv70_2, hfp70_2⟩⟩ := h70
            obtain ⟨hW, hx70, hr70⟩ := h70
            have he := he.trans (hx70.sub (jsub_of rfl))
            have hfp := hfp.trans (hX70_2.sub (fun b hb => by simp only [List.mem_cons, List.not_mem_nil, or_false] at hb ⊢; first | (rcases hb with h9 | h9 | h9 | h9 | h9 | h9 <;> simp only [h9, true_or, or_true]) | omega))
            have ha0 := ha0.mono hx70.1
            have ha1 := ha1.mono hx70.1
            have hb_st := hb_st.mono hx70.1
            have hb_s := hb_s.mono hx70.1
            have hb_xx := hb_xx.mono hx70.1
            have hb_yy := hb_yy.mono hx70.1
            have hb_zz := hb_zz.mono hx70.1
            have hO_a0 := hx70.2 _ _ hO_a0 (jnot_of rfl)
            have hK_a0 := hK_a0.mono hx70.1
            obtain ⟨fs70a1, hOfs70a1, hRfs70a1⟩ := hx70.1.keep hOfs50a1
            have hKfs70a1 : jokO _ (jFs 1) fs70a1 := hW _ _ id hOfs70a1
            have hFfs70a1_1 := hRfs70a1 _ _ hFfs50a1_1
            have hFfs70a1_2 := hRfs70a1 _ _ hFfs50a1_2
            have hFfs70a1_3 := hRfs70a1 _ _ hFfs50a1_3
            have hFfs70a1_4 := hRfs70a1 _ _ hFfs50a1_4
            cases hr70
            have hFv70_0 := hfv70_0.get hOfs70a1
            try simp only [he60.eq, he69.eq, hzf50_0.eq] at hfp70_0
            have hzf70_0 : jEq fv70_0.toInt (((g6n38.toInt) + 1)) := hfp70_0
            clear hfp70_0
            have hFv70_1 := hfv70_1.get hOfs70a1
            try simp only [he60.eq, he69.eq, hzf50_0.eq] at hfp70_1
            have hsb70_1 : M = fv70_1 := (jI_inj.mp hfp70_1).symm
            subst hsb70_1
            have hFv70_2 := hfv70_2.get hOfs70a1
            try simp only [he60.eq, he69.eq, hzf50_0.eq] at hfp70_2
            have hsb70_2 : g = fv70_2 := (jI_inj.mp hfp70_2).symm
            subst hsb70_2
            obtain ⟨T70, S70, X70, Y70, Z70, hTa70, hSa70, hXa70, hYa70, hZa70, hSe70, hXe70, hmw70⟩ := hX70_0
            have hmwn : jmw g.toInt (jdir g.toInt).toNat sn.toInt.toNat (sn.toInt - x2.toInt - 1).toNat (x3.toInt.toNat * (jdir g.toInt).toNat) (x3.toInt.toNat * (jdir g.toInt).toNat + (i4n38.toInt.toNat + 1)) ST T70 := hmw.join (by
              have q := hmw70
              rw [hpn, he60.eq, show (sn.toInt - (x2.toInt + 1)).toNat = (sn.toInt - x2.toInt - 1).toNat by omega] at q
              exact q) (Nat.le_add_right _ _) (by omega)
            obtain ⟨hN_T70, hv_T70⟩ := WT_rngI (r := ((-128), 127)) hW id rfl hTa70
            clear hN_T70
            obtain ⟨hN_S70, hv_S70⟩ := WT_rngI (r := ((-2147483648), 2147483647)) hW id rfl hSa70
            clear hN_S70
            obtain ⟨hN_X70, hv_X70⟩ := WT_rngI (r := ((-2147483648), 2147483647)) hW id rfl hXa70
            clear hN_X70
            obtain ⟨hN_Y70, hv_Y70⟩ := WT_rngI (r := ((-2147483648), 2147483647)) hW id rfl hYa70
            clear hN_Y70
            obtain ⟨hN_Z70, hv_Z70⟩ := WT_rngI (r := ((-2147483648), 2147483647)) hW id rfl hZa70
            clear hN_Z70
            refine J_aload_n dX5_markWalks_73 rfl ?_
            refine Jz_iconst 1 dX5_markWalks_74 (by decide) (fun y74 he74 => ?_)
            refine Jw_callV1 (q9 := (RX3, TX3, 7)) moX3_drop jw_ml_X5_76 jw_im_X3_drop jw_se_X3_drop ha1 rfl rfl dX5_markWalks_75 (w_X3_drop_z (d - 1) _ a1 y74 M g fv70_0 (by omega) hW  ha1 ⟨_, hOfs70a1, hFv70_1⟩ ⟨_, hOfs70a1, hFv70_2⟩ ⟨_, hOfs70a1, hFv70_0⟩ (by (try simp only [he74.eq, true_and, and_true]) <;> omega) (by (try simp only [he74.eq, hzf70_0.eq, true_and, and_true]) <;> omega)) (by omega) (Nat.zero_le _) (Nat.zero_le _) (Nat.le_of_ble_eq_true rfl) (fun r75 V75 h75 => ?_)
            obtain ⟨h75, hX75_0, ⟨fv75_0, hfv75_0, hfp75_0⟩, ⟨fv75_1, hfv75_1, hfp75_1⟩, ⟨fv75_2, hfv75_2, hfp75_2⟩⟩ := h75
            obtain ⟨hW, hx75, hr75⟩ := h75
            have he := he.trans (hx75.sub (jsub_of rfl))
            have hfp := hfp.trans (hX75_0.sub (fun b hb => by simp only [List.mem_cons, List.not_mem_nil, or_false] at hb ⊢; first | (rcases hb with h9 <;> simp only [h9, true_or, or_true]) | omega))
            have ha0 := ha0.mono hx75.1
            have ha1 := ha1.mono hx75.1
            have hb_st := hb_st.mono hx75.1
            have hb_s := hb_s.mono hx75.1
            have hb_xx := hb_xx.mono hx75.1
            have hb_yy := hb_yy.mono hx75.1
            have hb_zz := hb_zz.mono hx75.1
            have hO_a0 := hx75.2 _ _ hO_a0 (jnot_of rfl)
            have hK_a0 := hK_a0.mono hx75.1
            obtain ⟨fs75a1, hOfs75a1, hRfs75a1⟩ := hx75.1.keep hOfs70a1
            have hKfs75a1 : jokO _ (jFs 1) fs75a1 := hW _ _ id hOfs75a1
            have hFfs75a1_1 := hRfs75a1 _ _ hFfs70a1_1
            have hFfs75a1_2 := hRfs75a1 _ _ hFfs70a1_2
            have hFfs75a1_3 := hRfs75a1 _ _ hFfs70a1_3
            have hFfs75a1_4 := hRfs75a1 _ _ hFfs70a1_4
            have hTa70 := hx75.2 _ _ hTa70 (jnot_of rfl)
            have hSa70 := hx75.2 _ _ hSa70 (jnot_of rfl)
            have hXa70 := hx75.2 _ _ hXa70 (jnot_of rfl)
            have hYa70 := hx75.2 _ _ hYa70 (jnot_of rfl)
            have hZa70 := hx75.2 _ _ hZa70 (jnot_of rfl)
            cases hr75
            have hFv75_0 := hfv75_0.get hOfs75a1
            try simp only [he74.eq, hzf70_0.eq] at hfp75_0
            have hsb75_0 : M = fv75_0 := (jI_inj.mp hfp75_0).symm
            subst hsb75_0
            have hFv75_1 := hfv75_1.get hOfs75a1
            try simp only [he74.eq, hzf70_0.eq] at hfp75_1
            have hsb75_1 : g = fv75_1 := (jI_inj.mp hfp75_1).symm
            subst hsb75_1
            have hFv75_2 := hfv75_2.get hOfs75a1
            try simp only [he74.eq, hzf70_0.eq] at hfp75_2
            have hzf75_2 : jEq fv75_2.toInt ((((g6n38.toInt) + 1)) - (1)) := hfp75_2
            clear hfp75_2
            refine Jz_iinc 1 dX5_markWalks_78 rfl rfl (by decide) jEq.rf (by decide) (by omega) (by omega) (fun y78 he78 => ?_)
            refine J_goto (tgt := 38) dX5_markWalks_81 (by decide) ?_
            refine J.mask [true, true, true, true, true] ?_
            exact ih38 _ y78 fs75a1 fv75_2 T70 S70 X70 Y70 Z70 hW he ha0 ha1 hb_st hb_s hb_xx hb_yy hb_zz hfp hO_a0 hK_a0 hOfs75a1 hFv75_0 hFv75_1 hFv75_2 hFfs75a1_1 hFfs75a1_2 hFfs75a1_3 hFfs75a1_4 hTa70 hSa70 hXa70 hYa70 hZa70 (by (try simp only [he78.eq, hzf75_2.eq, true_and, and_true]) <;> omega) (by (try simp only [he78.eq, hzf75_2.eq, true_and, and_true]) <;> omega) (fun j hj => by rw [hSe70 j (by rw [hzf50_0.eq]; omega), hSo50 j (by omega)]; exact hS j hj) (fun j hj => by obtain ⟨q1, q2, q3⟩ := hXe70 j (by rw [hzf50_0.eq]; omega); rw [q1, q2, q3, hXo50 j (by omega), hYo50 j (by omega), hZo50 j (by omega)]; exact hXYZ j hj) (by rw [he78.eq, show (i4n38.toInt + 1).toNat = i4n38.toInt.toNat + 1 by omega]; exact hmwn) (by (try simp only [he78.eq, hzf75_2.eq, true_and, and_true]) <;> omega)
          · refine Jw_callV1 (q9 := (RX3, TX3, 7)) moX3_lay jw_ml_X5_72 jw_im_X3_lay jw_se_X3_lay ha1 rfl rfl dX5_markWalks_50 (w_X3_lay_no (d - 1) _ a1 i4n38 M g g6n38 s xx yy zz F6n38 F34n38 F35n38 F36n38 (by omega) hW  ha1 ⟨_, hOgs38a1, hFgs38a1_0⟩ ⟨_, hOgs38a1, hFgs38a1_5⟩ ⟨_, hOgs38a1, hFgs38a1_6⟩ ⟨_, hOgs38a1, hFgs38a1_1⟩ ⟨_, hOgs38a1, hFgs38a1_2⟩ ⟨_, hOgs38a1, hFgs38a1_3⟩ ⟨_, hOgs38a1, hFgs38a1_4⟩ hAF6n38 hAF34n38 hAF35n38 hAF36n38 (by omega) (by omega) (by omega) (by omega) (by omega) (by omega) (by omega) (by omega) (by omega) (by omega) (by omega) (by omega) (by omega) (Or.inr (Classical.byContradiction (fun z => hcc ((jnx_iff hjv2 hja2).mp (fun j hj q => z ⟨j, by omega, q⟩)))))) (by omega) (Nat.zero_le _) (Nat.zero_le _) (Nat.le_of_ble_eq_true rfl) (fun r50 V50 h50 => ?_)
            obtain ⟨⟨y50, rfl, hl50, hh50, hP50_0⟩, hE50⟩ := h50
            have hE50 := hE50.symm
            subst hE50
            have hjn : ¬ jav g.toInt (jsat (fun q => (S q).toInt) x2.toInt.toNat i4n38.toInt) (x2.toInt.toNat + 1) := fun z => hcc (by
              rw [hN9]
              exact z.congr (jsat_congr (fun q hq => (congrArg Int32.toInt (hS q (by omega))).symm)))
            refine Jz_if_eq (tgt := 78) jEq.rf dX5_markWalks_53 (by decide) (fun c53 => ?_) (fun c53 => (show False by omega).elim)
            refine Jz_iinc 1 dX5_markWalks_78 rfl rfl (by decide) jEq.rf (by decide) (by omega) (by omega) (fun y78 he78 => ?_)
            refine J_goto (tgt := 38) dX5_markWalks_81 (by decide) ?_
            refine J.mask [true, true, true, true, true] ?_
            exact ih38 _ y78 gs38a1 g6n38 F3n38 F6n38 F34n38 F35n38 F36n38 hW he ha0 ha1 hb_st hb_s hb_xx hb_yy hb_zz hfp hO_a0 hK_a0 hOgs38a1 hFgs38a1_0 hFgs38a1_5 hFgs38a1_6 hFgs38a1_1 hFgs38a1_2 hFgs38a1_3 hFgs38a1_4 hAF3n38 hAF6n38 hAF34n38 hAF35n38 hAF36n38 (by (try simp only [he78.eq, true_and, and_true]) <;> omega) (by (try simp only [he78.eq, true_and, and_true]) <;> omega) hS hXYZ (by rw [he78.eq, show (i4n38.toInt + 1).toNat = i4n38.toInt.toNat + 1 by omega]; exact hmw.skip (fun v hv w => hjn (by have q := jwlk_pre (N := x2.toInt.toNat) (m := (sn.toInt - x2.toInt - 1).toNat) (p := x3.toInt.toNat) (d := i4n38.toInt.toNat) (T := (fun q => (S q).toInt)) hD0 (by omega) (by omega) w hv (fun i hi => hp11 i (by omega)); rw [e2] at q; exact q))) (by (try simp only [he78.eq, true_and, and_true]) <;> omega)
    refine J.mask [true, true, true, true, true] ?_
    exact L38 _ _ y35 fs_a1 n ST S X Y Z hW he ha0 ha1 hb_st hb_s hb_xx hb_yy hb_zz hfp hO_a0 hK_a0 hO_a1 hF_M hF_g hF_n hF_s hF_xx hF_yy hF_zz ha_ST ha_S ha_X ha_Y ha_Z (by (try simp only [he35.eq, true_and, and_true]) <;> omega) (by (try simp only [he35.eq, true_and, and_true]) <;> omega) (fun _ _ => rfl) (fun _ _ => ⟨rfl, rfl, rfl⟩) (by rw [he35.eq, show (0 : Int).toNat = 0 from rfl, Nat.add_zero]; exact jmw.rf) (Nat.lt_succ_self _)
set_option maxRecDepth 100000 in
set_option maxHeartbeats 8000000 in
theorem w_X5_countReached_z {tS : jTS} (d : Nat) (V0 : jH) (a0 : Nat) (a1 : Nat) (g : Int32) (sn : Int32) (b : Int32) (qd : Int32) (M : Int32) (n : Int32) (st : Nat) (qu : Nat) (dg : Nat) (s : Nat) (xx : Nat) (yy : Nat) (zz : Nat) (R : Nat) (ST : Nat → Int32) (QU : Nat → Int32) (DG : Nat → Int32) (S : Nat → Int32) (X : Nat → Int32) (Y : Nat → Int32) (Z : Nat → Int32) (hd : 13 ≤ d) (hW : WT V0) (ha0 : jis V0 (.inr 3) a0) (ha1 : jis V0 (.inr 1) a1) (hf_g : jfI V0 a0 3 0 g) (hf_sn : jfI V0 a0 3 1 sn) (hf_b : jfI V0 a0 3 2 b) (hf_qd : jfI V0 a0 3 6 qd) (hf_M : jfI V0 a1 1 0 M) (hf_n : jfI V0 a1 1 6 n) (hr_st : jfR V0 a0 3 3 st) (hr_qu : jfR V0 a0 3 4 qu) (hr_dg : jfR V0 a0 3 5 dg) (hr_s : jfR V0 a1 1 1 s) (hr_xx : jfR V0 a1 1 2 xx) (hr_yy : jfR V0 a1 1 3 yy) (hr_zz : jfR V0 a1 1 4 zz) (ha_ST : V0 st = some (.inl (3, R, .inl ST))) (ha_QU : V0 qu = some (.inl (10, R, .inl QU))) (ha_DG : V0 dg = some (.inl (11, 6, .inl DG))) (ha_S : V0 s = some (.inl (6, 120, .inl S))) (ha_X : V0 xx = some (.inl (34, 121, .inl X))) (ha_Y : V0 yy = some (.inl (35, 121, .inl Y))) (ha_Z : V0 zz = some (.inl (36, 121, .inl Z))) (hp0 : M.toInt = 120) (hp1 : 0 ≤ g.toInt) (hp2 : g.toInt ≤ 3) (hp3 : b.toInt = jdir g.toInt) (hp4 : 1 ≤ sn.toInt) (hp5 : sn.toInt ≤ 6) (hp6 : (R : Int) ≤ 10000) (hp7 : R = (jdir g.toInt).toNat ^ sn.toInt.toNat) (hp8 : qd.toInt = 0) (hp9 : ST = (fun _ => 0)) (hp10 : (X 0).toInt = 0) (hp11 : (Y 0).toInt = 0) (hp12 : (Z 0).toInt = 0) : jTot tS mX5_countReached d [.ref a0, .ref a1] V0 0 0 (fun r V => (jPost [.inr 3, .inr 1, .inl 6, .inl 34, .inl 35, .inl 36, .inl 3, .inl 10, .inl 11] V0 (fun r _ => ∃ y : Int32, r = some (.int y) ∧ ((-2147483648) ≤ y.toInt) ∧ (y.toInt ≤ 2147483647) ∧ (y.toInt = (((jbf g.toInt (jdir g.toInt).toNat sn.toInt.toNat (jtur g.toInt).toNat (R + 1) 0 [0]).length : Nat) : Int)))) r V ∧ jrk a1 V0 V) := by
  refine jTot.of_J [some (.ref a0), some (.ref a1), none, none, none] moX5_countReached (Nat.le_of_ble_eq_true rfl) rfl ?_
  have he : jeff [.inr 3, .inr 1, .inl 6, .inl 34, .inl 35, .inl 36, .inl 3, .inl 10, .inl 11] V0 V0 := jeff.refl _ _
  have hkr : jrk a1 V0 V0 := jrk.rf
  obtain ⟨fs_a0, hO_a0, hK_a0⟩ := WT_obj hW id ha0
  obtain ⟨fs_a1, hO_a1, hK_a1⟩ := WT_obj hW id ha1
  have hF_g := hf_g.get hO_a0
  have hrg : (-2147483648) ≤ g.toInt ∧ g.toInt ≤ 2147483647 := jok_rngI hK_a0 rfl hF_g
  have hF_sn := hf_sn.get hO_a0
  have hrsn : 0 ≤ sn.toInt ∧ sn.toInt ≤ 6 := jok_rngI hK_a0 rfl hF_sn
  have hF_b := hf_b.get hO_a0
  have hrb : (-2147483648) ≤ b.toInt ∧ b.toInt ≤ 2147483647 := jok_rngI hK_a0 rfl hF_b
  have hF_qd := hf_qd.get hO_a0
  have hrqd : 0 ≤ qd.toInt ∧ qd.toInt ≤ 2147483647 := jok_rngI hK_a0 rfl hF_qd
  have hF_M := hf_M.get hO_a1
  have hrM : 0 ≤ M.toInt ∧ M.toInt ≤ 120 := jok_rngI hK_a1 rfl hF_M
  have hF_n := hf_n.get hO_a1
  have hrn : 0 ≤ n.toInt ∧ n.toInt ≤ 120 := jok_rngI hK_a1 rfl hF_n
  have hF_st := hr_st.get hO_a0
  obtain ⟨w_st, hFq_st, b_st, hbq_st, hb_st⟩ := hK_a0.2 3 (.inr (some (.inl 3))) rfl
  cases hF_st.symm.trans (hFq_st.trans (congrArg some hbq_st))
  have hF_qu := hr_qu.get hO_a0
  obtain ⟨w_qu, hFq_qu, b_qu, hbq_qu, hb_qu⟩ := hK_a0.2 4 (.inr (some (.inl 10))) rfl
  cases hF_qu.symm.trans (hFq_qu.trans (congrArg some hbq_qu))
  have hF_dg := hr_dg.get hO_a0
  obtain ⟨w_dg, hFq_dg, b_dg, hbq_dg, hb_dg⟩ := hK_a0.2 5 (.inr (some (.inl 11))) rfl
  cases hF_dg.symm.trans (hFq_dg.trans (congrArg some hbq_dg))
  have hF_s := hr_s.get hO_a1
  obtain ⟨w_s, hFq_s, b_s, hbq_s, hb_s⟩ := hK_a1.2 1 (.inr (some (.inl 6))) rfl
  cases hF_s.symm.trans (hFq_s.trans (congrArg some hbq_s))
  have hF_xx := hr_xx.get hO_a1
  obtain ⟨w_xx, hFq_xx, b_xx, hbq_xx, hb_xx⟩ := hK_a1.2 2 (.inr (some (.inl 34))) rfl
  cases hF_xx.symm.trans (hFq_xx.trans (congrArg some hbq_xx))
  have hF_yy := hr_yy.get hO_a1
  obtain ⟨w_yy, hFq_yy, b_yy, hbq_yy, hb_yy⟩ := hK_a1.2 3 (.inr (some (.inl 35))) rfl
  cases hF_yy.symm.trans (hFq_yy.trans (congrArg some hbq_yy))
  have hF_zz := hr_zz.get hO_a1
  obtain ⟨w_zz, hFq_zz, b_zz, hbq_zz, hb_zz⟩ := hK_a1.2 4 (.inr (some (.inl 36))) rfl
  cases hF_zz.symm.trans (hFq_zz.trans (congrArg some hbq_zz))
  obtain ⟨hN_ST, hv_ST⟩ := WT_rngI (r := ((-128), 127)) hW id rfl ha_ST
  clear hN_ST
  obtain ⟨hN_QU, hv_QU⟩ := WT_rngI (r := ((-2147483648), 2147483647)) hW id rfl ha_QU
  clear hN_QU
  obtain ⟨hN_DG, hv_DG⟩ := WT_rngI (r := ((-2147483648), 2147483647)) hW id rfl ha_DG
  clear hN_DG
  obtain ⟨hN_S, hv_S⟩ := WT_rngI (r := ((-2147483648), 2147483647)) hW id rfl ha_S
  clear hN_S
  obtain ⟨hN_X, hv_X⟩ := WT_rngI (r := ((-2147483648), 2147483647)) hW id rfl ha_X
  clear hN_X
  obtain ⟨hN_Y, hv_Y⟩ := WT_rngI (r := ((-2147483648), 2147483647)) hW id rfl ha_Y
  clear hN_Y
  obtain ⟨hN_Z, hv_Z⟩ := WT_rngI (r := ((-2147483648), 2147483647)) hW id rfl ha_Z
  clear hN_Z
  have hjb : 3 ≤ jdir g.toInt ∧ jdir g.toInt ≤ 6 := by have q := jdir_cases g.toInt; omega
  have hDn : (((jdir g.toInt).toNat : Nat) : Int) = jdir g.toInt := Int.toNat_of_nonneg (by omega)
  have hD0 : 0 < (jdir g.toInt).toNat := by omega
  have hR0 : 0 < R := by rw [hp7]; exact jpp hD0 _
  have hjt0 : 0 ≤ jtur g.toInt := by have q := jtur_cases g.toInt; omega
  have hjt9 : jtur g.toInt ≤ 48 := by have q := jtur_cases g.toInt; omega
  refine J_aload_n dX5_countReached_0 rfl ?_
  refine J_aload_n dX5_countReached_1 rfl ?_
  refine J_get jf_X5_19 dX5_countReached_2 hO_a0 hF_g ?_
  refine Jw_callV1 (q9 := (RX3, TX3, 7)) moX3_begin jw_ml_X5_50 jw_im_X3_begin jw_se_X3_begin ha1 rfl rfl dX5_countReached_5 (w_X3_begin_zk (d - 1) _ a1 g M n s xx yy zz S X Y Z (by omega) hW  ha1 ⟨_, hO_a1, hF_M⟩ ⟨_, hO_a1, hF_n⟩ ⟨_, hO_a1, hF_s⟩ ⟨_, hO_a1, hF_xx⟩ ⟨_, hO_a1, hF_yy⟩ ⟨_, hO_a1, hF_zz⟩ ha_S ha_X ha_Y ha_Z) (by omega) (Nat.zero_le _) (Nat.zero_le _) (Nat.le_of_ble_eq_true rfl) (fun r5 V5 h5 => ?_)
  obtain ⟨h5, hX5_0, ⟨fv5_0, hfv5_0, hfp5_0⟩, ⟨fv5_1, hfv5_1, hfp5_1⟩, ⟨fv5_2, hfv5_2, hfp5_2⟩⟩ := h5
  obtain ⟨hW, hx5, hr5⟩ := h5
  have hkr := hkr.trans he.1 hX5_0
  have he := he.trans (hx5.sub (jsub_of rfl))
  have ha0 := ha0.mono hx5.1
  have ha1 := ha1.mono hx5.1
  have hb_st := hb_st.mono hx5.1
  have hb_qu := hb_qu.mono hx5.1
  have hb_dg := hb_dg.mono hx5.1
  have hb_s := hb_s.mono hx5.1
  have hb_xx := hb_xx.mono hx5.1
  have hb_yy := hb_yy.mono hx5.1
  have hb_zz := hb_zz.mono hx5.1
  have hO_a0 := hx5.2 _ _ hO_a0 (jnot_of rfl)
  have hK_a0 := hK_a0.mono hx5.1
  obtain ⟨fs5a1, hOfs5a1, hRfs5a1⟩ := hx5.1.keep hO_a1
  have hKfs5a1 : jokO _ (jFs 1) fs5a1 := hW _ _ id hOfs5a1
  have hFfs5a1_1 := hRfs5a1 _ _ hF_s
  have hFfs5a1_2 := hRfs5a1 _ _ hF_xx
  have hFfs5a1_3 := hRfs5a1 _ _ hF_yy
  have hFfs5a1_4 := hRfs5a1 _ _ hF_zz
  have ha_ST := hx5.2 _ _ ha_ST (jnot_of rfl)
  have ha_QU := hx5.2 _ _ ha_QU (jnot_of rfl)
  have ha_DG := hx5.2 _ _ ha_DG (jnot_of rfl)
  have ha_S := hx5.2 _ _ ha_S (jnot_of rfl)
  have ha_X := hx5.2 _ _ ha_X (jnot_of rfl)
  have ha_Y := hx5.2 _ _ ha_Y (jnot_of rfl)
  have ha_Z := hx5.2 _ _ ha_Z (jnot_of rfl)
  cases hr5
  have hFv5_0 := hfv5_0.get hOfs5a1
  have hsb5_0 : M = fv5_0 := (jI_inj.mp hfp5_0).symm
  subst hsb5_0
  have hFv5_1 := hfv5_1.get hOfs5a1
  have hsb5_1 : g = fv5_1 := (jI_inj.mp hfp5_1).symm
  subst hsb5_1
  have hFv5_2 := hfv5_2.get hOfs5a1
  have hzf5_2 : jEq fv5_2.toInt (0) := hfp5_2
  clear hfp5_2
  refine J_aload_n dX5_countReached_8 rfl ?_
  refine J_aload_n dX5_countReached_9 rfl ?_
  refine Jz_iconst 0 dX5_countReached_10 (by decide) (fun y10 he10 => ?_)
  refine Jz_iconst 0 dX5_countReached_11 (by decide) (fun y11 he11 => ?_)
  refine J_callS4 moX5_markWalks jw_ml_X5_56 jw_st_X5_markWalks dX5_countReached_12 (w_X5_markWalks_z 8 (d - 1) _ a0 a1 y10 y11 sn b M g fv5_2 st s xx yy zz R ST S X Y Z (by omega) hW ha0 ha1 (by (try simp only [he10.eq, true_and, and_true]) <;> omega) (by (try simp only [he10.eq, true_and, and_true]) <;> omega) ⟨_, hO_a0, hF_sn⟩ ⟨_, hO_a0, hF_b⟩ ⟨_, hOfs5a1, hFv5_0⟩ ⟨_, hOfs5a1, hFv5_1⟩ ⟨_, hOfs5a1, hFv5_2⟩ ⟨_, hO_a0, hF_st⟩ ⟨_, hOfs5a1, hFfs5a1_1⟩ ⟨_, hOfs5a1, hFfs5a1_2⟩ ⟨_, hOfs5a1, hFfs5a1_3⟩ ⟨_, hOfs5a1, hFfs5a1_4⟩ ha_ST ha_S ha_X ha_Y ha_Z (by omega) (by omega) (by omega) (by omega) (by rw [hzf5_2.eq, he10.eq]) (by rw [he10.eq]; omega) (by omega) (by rw [he11.eq]; omega) (by omega) hp7 (by rw [he10.eq, he11.eq]; show 0 < _ ^ 0; rw [Nat.pow_zero]; decide) (fun i hi => by rw [he10.eq] at hi; omega) (by rw [hzf5_2.eq]; intro i hi; rw [show i = 0 by omega]; exact ⟨hp10, hp11, hp12⟩) (by rw [hzf5_2.eq]; exact jav.zero) (by (try simp only [he10.eq, he11.eq, hzf5_2.eq, true_and, and_true]) <;> omega)) (by omega) (Nat.zero_le _) (Nat.zero_le _) (Nat.le_of_ble_eq_true rfl) (fun r12 V12 h12 => ?_)
  obtain ⟨h12, hX12_0, hX12_1, hX12_2, ⟨fv12_0, hfv12_0, hfp12_0⟩, ⟨fv12_1, hfv12_1, hfp12_1⟩, ⟨fv12_2, hfv12_2, hfp12_2⟩⟩ := h12
  obtain ⟨hW, hx12, hr12⟩ := h12
  have hkr := hkr.trans he.1 hX12_1
  have he := he.trans (hx12.sub (jsub_of rfl))
  have ha0 := ha0.mono hx12.1
  have ha1 := ha1.mono hx12.1
  have hb_st := hb_st.mono hx12.1
  have hb_qu := hb_qu.mono hx12.1
  have hb_dg := hb_dg.mono hx12.1
  have hb_s := hb_s.mono hx12.1
  have hb_xx := hb_xx.mono hx12.1
  have hb_yy := hb_yy.mono hx12.1
  have hb_zz := hb_zz.mono hx12.1
  have hO_a0 := hx12.2 _ _ hO_a0 (jnot_of rfl)
  have hK_a0 := hK_a0.mono hx12.1
  obtain ⟨fs12a1, hOfs12a1, hRfs12a1⟩ := hx12.1.keep hOfs5a1
  have hKfs12a1 : jokO _ (jFs 1) fs12a1 := hW _ _ id hOfs12a1
  have hFfs12a1_1 := hRfs12a1 _ _ hFfs5a1_1
  have hFfs12a1_2 := hRfs12a1 _ _ hFfs5a1_2
  have hFfs12a1_3 := hRfs12a1 _ _ hFfs5a1_3
  have hFfs12a1_4 := hRfs12a1 _ _ hFfs5a1_4
  have ha_QU := hx12.2 _ _ ha_QU (jnot_of rfl)
  have ha_DG := hx12.2 _ _ ha_DG (jnot_of rfl)
  cases hr12
  have hFv12_0 := hfv12_0.get hOfs12a1
  try simp only [he10.eq, he11.eq, hzf5_2.eq] at hfp12_0
  have hzf12_0 : jEq fv12_0.toInt ((0)) := hfp12_0
  clear hfp12_0
  have hFv12_1 := hfv12_1.get hOfs12a1
  try simp only [he10.eq, he11.eq, hzf5_2.eq] at hfp12_1
  have hsb12_1 : M = fv12_1 := (jI_inj.mp hfp12_1).symm
  subst hsb12_1
  have hFv12_2 := hfv12_2.get hOfs12a1
  try simp only [he10.eq, he11.eq, hzf5_2.eq] at hfp12_2
  have hsb12_2 : g = fv12_2 := (jI_inj.mp hfp12_2).symm
  subst hsb12_2
  obtain ⟨T12, S12, X12, Y12, Z12, hTa12, hSa12, hXa12, hYa12, hZa12, -, -, hmw12⟩ := hX12_0
  have hrs0 : jrs9 (jwlk g.toInt (jdir g.toInt).toNat sn.toInt.toNat) R T12 QU 0 [] := jrs9.init (fun v hv => by
    have q := hmw12
    rw [he10.eq, he11.eq, hp9, show (sn.toInt - 0).toNat = sn.toInt.toNat by omega] at q
    exact jmw.all q v (by rw [← hp7]; exact hv))
  obtain ⟨hN_T12, hv_T12⟩ := WT_rngI (r := ((-128), 127)) hW id rfl hTa12
  clear hN_T12
  refine J_aload_n dX5_countReached_15 rfl ?_
  refine Jz_iconst 0 dX5_countReached_16 (by decide) (fun y16 he16 => ?_)
  refine Jw_callV1 (q9 := (RX5, TX5, 7)) moX5_arriveAt jw_ml_X5_60 jw_im_X5_arriveAt jw_se_X5_arriveAt ha0 rfl rfl dX5_countReached_17 (w_X5_arriveAt_z (d - 1) _ a0 y16 g sn b qd st qu R [] (jwlk g.toInt (jdir g.toInt).toNat sn.toInt.toNat) T12 QU (by omega) hW  ha0 ⟨_, hO_a0, hF_g⟩ ⟨_, hO_a0, hF_sn⟩ ⟨_, hO_a0, hF_b⟩ ⟨_, hO_a0, hF_qd⟩ ⟨_, hO_a0, hF_st⟩ ⟨_, hO_a0, hF_qu⟩ hTa12 ha_QU (by rw [he16.eq]; omega) (by rw [he16.eq]; omega) (by omega) (by rw [hp8]; exact hrs0)) (by omega) (Nat.zero_le _) (Nat.zero_le _) (Nat.le_of_ble_eq_true rfl) (fun r17 V17 h17 => ?_)
  obtain ⟨h17, hX17_0, ⟨fv17_0, hfv17_0, hfp17_0⟩, ⟨fv17_1, hfv17_1, hfp17_1⟩, ⟨fv17_2, hfv17_2, hfp17_2⟩⟩ := h17
  obtain ⟨hW, hx17, hr17⟩ := h17
  have hkr := hkr.trans he.1 (jrk.of hx17 (jdis_of rfl))
  have he := he.trans (hx17.sub (jsub_of rfl))
  have ha0 := ha0.mono hx17.1
  have ha1 := ha1.mono hx17.1
  have hb_st := hb_st.mono hx17.1
  have hb_qu := hb_qu.mono hx17.1
  have hb_dg := hb_dg.mono hx17.1
  have hb_s := hb_s.mono hx17.1
  have hb_xx := hb_xx.mono hx17.1
  have hb_yy := hb_yy.mono hx17.1
  have hb_zz := hb_zz.mono hx17.1
  obtain ⟨fs17a0, hOfs17a0, hRfs17a0⟩ := hx17.1.keep hO_a0
  have hKfs17a0 : jokO _ (jFs 3) fs17a0 := hW _ _ id hOfs17a0
  have hFfs17a0_3 := hRfs17a0 _ _ hF_st
  have hFfs17a0_4 := hRfs17a0 _ _ hF_qu
  have hFfs17a0_5 := hRfs17a0 _ _ hF_dg
  have hOfs12a1 := hx17.2 _ _ hOfs12a1 (jnot_of rfl)
  have hKfs12a1 := hKfs12a1.mono hx17.1
  have ha_DG := hx17.2 _ _ ha_DG (jnot_of rfl)
  cases hr17
  have hFv17_0 := hfv17_0.get hOfs17a0
  try simp only [he16.eq] at hfp17_0
  have hsb17_0 : g = fv17_0 := (jI_inj.mp hfp17_0).symm
  subst hsb17_0
  have hFv17_1 := hfv17_1.get hOfs17a0
  try simp only [he16.eq] at hfp17_1
  have hsb17_1 : sn = fv17_1 := (jI_inj.mp hfp17_1).symm
  subst hsb17_1
  have hFv17_2 := hfv17_2.get hOfs17a0
  try simp only [he16.eq] at hfp17_2
  have hsb17_2 : b = fv17_2 := (jI_inj.mp hfp17_2).symm
  subst hsb17_2
  obtain ⟨T17, Q17, q17, hTa17, hQa17, hqf17, hrs17⟩ := hX17_0
  have hrs1 : jrs9 (jwlk g.toInt (jdir g.toInt).toNat sn.toInt.toNat) R T17 Q17 q17.toInt [0] := by
    have q := hrs17
    rw [he16.eq, show (0 : Int).toNat = 0 from rfl, jadd_yes List.not_mem_nil (jwlk_zero _ _ _)] at q
    exact q
  have hFv176 := hqf17.get hOfs17a0
  obtain ⟨hN_T17, hv_T17⟩ := WT_rngI (r := ((-128), 127)) hW id rfl hTa17
  clear hN_T17
  obtain ⟨hN_Q17, hv_Q17⟩ := WT_rngI (r := ((-2147483648), 2147483647)) hW id rfl hQa17
  clear hN_Q17
  refine Jz_iconst 0 dX5_countReached_20 (by decide) (fun y20 he20 => ?_)
  refine J_istore_n dX5_countReached_21 rfl (by decide) ?_
  have L22 : ∀ (N : Nat) (V : jH) (i2n22 : Int32) (gs22a0 : List Value) (g6n22 : Int32) (F3n22 : Nat → Int32) (F10n22 : Nat → Int32) (F11n22 : Nat → Int32), WT V → jeff [.inr 3, .inr 1, .inl 6, .inl 34, .inl 35, .inl 36, .inl 3, .inl 10, .inl 11] V0 V → (jis V (.inr 3) a0) → (jis V (.inr 1) a1) → (jis V (.inl 3) st) → (jis V (.inl 10) qu) → (jis V (.inl 11) dg) → (jis V (.inl 6) s) → (jis V (.inl 34) xx) → (jis V (.inl 35) yy) → (jis V (.inl 36) zz) → (jrk a1 V0 V) → (V a0 = some (.inr (3, gs22a0))) → (gs22a0[3]? = some (.ref st)) → (gs22a0[4]? = some (.ref qu)) → (gs22a0[5]? = some (.ref dg)) → (gs22a0[0]? = some (.int g)) → (gs22a0[1]? = some (.int sn)) → (gs22a0[2]? = some (.int b)) → (gs22a0[6]? = some (.int g6n22)) → (V a1 = some (.inr (1, fs12a1))) → (jokO V (jFs 1) fs12a1) → (V st = some (.inl (3, R, .inl F3n22))) → (V qu = some (.inl (10, R, .inl F10n22))) → (V dg = some (.inl (11, 6, .inl F11n22))) → (0 ≤ i2n22.toInt ∧ i2n22.toInt ≤ (R : Int)) → (jbi g.toInt (jdir g.toInt).toNat sn.toInt.toNat (jtur g.toInt).toNat R F3n22 F10n22 g6n22.toInt i2n22.toInt.toNat) → (20000 - i2n22.toInt).toNat < N → J tS mX5_countReached d 22 [some (.ref a0), some (.ref a1), some (.int i2n22), none, none] [] V 0 0 (fun r V => (jPost [.inr 3, .inr 1, .inl 6, .inl 34, .inl 35, .inl 36, .inl 3, .inl 10, .inl 11] V0 (fun r _ => ∃ y : Int32, r = some (.int y) ∧ ((-2147483648) ≤ y.toInt) ∧ (y.toInt ≤ 2147483647) ∧ (y.toInt = (((jbf g.toInt (jdir g.toInt).toNat sn.toInt.toNat (jtur g.toInt).toNat (R + 1) 0 [0]).length : Nat) : Int)))) r V ∧ jrk a1 V0 V) := by
    intro N
    induction N with
    | zero => intro V i2n22 gs22a0 g6n22 F3n22 F10n22 F11n22 hW he ha0 ha1 hb_st hb_qu hb_dg hb_s hb_xx hb_yy hb_zz hkr hOgs22a0 hFgs22a0_3 hFgs22a0_4 hFgs22a0_5 hFgs22a0_0 hFgs22a0_1 hFgs22a0_2 hFgs22a0_6 hOfs12a1 hKfs12a1 hAF3n22 hAF10n22 hAF11n22 hi2 hbi hm; exact absurd hm (Nat.not_lt_zero _)
    | succ N ih =>
      intro V i2n22 gs22a0 g6n22 F3n22 F10n22 F11n22 hW he ha0 ha1 hb_st hb_qu hb_dg hb_s hb_xx hb_yy hb_zz hkr hOgs22a0 hFgs22a0_3 hFgs22a0_4 hFgs22a0_5 hFgs22a0_0 hFgs22a0_1 hFgs22a0_2 hFgs22a0_6 hOfs12a1 hKfs12a1 hAF3n22 hAF10n22 hAF11n22 hi2 hbi hm
      have ih22 := ih
      have hri2 := j_rng i2n22
      have hKgs22a0 : jokO V (jFs 3) gs22a0 := hW _ _ id hOgs22a0
      have hrgg6n22 : 0 ≤ g6n22.toInt ∧ g6n22.toInt ≤ 2147483647 := jok_rngI hKgs22a0 rfl hFgs22a0_6
      obtain ⟨hNF3n22, hvF3n22⟩ := WT_rngI (r := ((-128), 127)) hW id rfl hAF3n22
      clear hNF3n22
      obtain ⟨hNF10n22, hvF10n22⟩ := WT_rngI (r := ((-2147483648), 2147483647)) hW id rfl hAF10n22
      clear hNF10n22
      obtain ⟨hNF11n22, hvF11n22⟩ := WT_rngI (r := ((-2147483648), 2147483647)) hW id rfl hAF11n22
      clear hNF11n22
      obtain ⟨L, hrs, hjb9⟩ := hbi
      have hln := hrs.len
      refine J_iload_n dX5_countReached_22 rfl ?_
      refine J_aload_n dX5_countReached_23 rfl ?_
      refine J_get jf_X5_15 dX5_countReached_24 hOgs22a0 hFgs22a0_6 ?_
      refine Jz_icmp_ge (tgt := 103) jEq.rf jEq.rf dX5_countReached_27 (by decide) (fun c27 => ?_) (fun c27 => ?_)
      · refine J_aload_n dX5_countReached_103 rfl ?_
        refine J_get jf_X5_15 dX5_countReached_104 hOgs22a0 hFgs22a0_6 ?_
        exact J_ret (r := some (.int _)) dX5_countReached_107 ⟨rfl, _, rfl, rfl⟩ (⟨⟨hW, he, ⟨_, rfl, (j_rng _).1, (j_rng _).2, (by rw [hln.1, ← hjb9, jbf_done (q := L) (h := i2n22.toInt.toNat) (by omega)])⟩⟩, hkr⟩)
      · refine J_iload_n dX5_countReached_30 rfl ?_
        refine J_aload_n dX5_countReached_31 rfl ?_
        refine J_get jf_X5_47 dX5_countReached_32 hOgs22a0 hFgs22a0_4 ?_
        refine J_alen dX5_countReached_35 hAF10n22 rfl rfl ?_
        have he35 : jEq (Int32.ofNat R).toInt R := nI_toInt (by omega)
        generalize Int32.ofNat R = y35 at he35 ⊢
        refine Jz_icmp_ge (tgt := 103) jEq.rf he35 dX5_countReached_36 (by decide) (fun c36 => (show False by omega).elim) (fun c36 => ?_)
        refine J_aload_n dX5_countReached_39 rfl ?_
        refine J_aload_n dX5_countReached_40 rfl ?_
        refine J_get jf_X5_47 dX5_countReached_41 hOgs22a0 hFgs22a0_4 ?_
        refine J_iload_n dX5_countReached_44 rfl ?_
        refine Jz_iald (r := ((-2147483648), 2147483647)) jEq.rf dX5_countReached_45 hAF10n22 rfl hvF10n22 (by omega) (by omega) (fun y45 hf45 hl45 hh45 => ?_)
        dsimp only at hl45 hh45
        clear hl45 hh45
        have hv45 : y45.toInt = (((jnth L i2n22.toInt.toNat) : Nat) : Int) := by rw [← hf45]; exact hrs.2.1 _ (by omega)
        have hvR := hrs.2.2.1 _ (jnth_mem L i2n22.toInt.toNat (by omega))
        refine Jw_callV1 (q9 := (RX5, TX5, 7)) moX5_takeApart jw_ml_X5_63 jw_im_X5_takeApart jw_se_X5_takeApart ha0 rfl rfl dX5_countReached_46 (w_X5_takeApart_z (d - 1) _ a0 y45 sn b dg F11n22 (by omega) hW  ha0 ⟨_, hOgs22a0, hFgs22a0_1⟩ ⟨_, hOgs22a0, hFgs22a0_2⟩ ⟨_, hOgs22a0, hFgs22a0_5⟩ hAF11n22 (by omega) (by omega) (by omega) (by omega) (by omega)) (by omega) (Nat.zero_le _) (Nat.zero_le _) (Nat.le_of_ble_eq_true rfl) (fun r46 V46 h46 => ?_)
        obtain ⟨h46, hX46_0⟩ := h46
        obtain ⟨hW, hx46, hr46⟩ := h46
        have hkr := hkr.trans he.1 (jrk.of hx46 (jdis_of rfl))
        have he := he.trans (hx46.sub (jsub_of rfl))
        have ha0 := ha0.mono hx46.1
        have ha1 := ha1.mono hx46.1
        have hb_st := hb_st.mono hx46.1
        have hb_qu := hb_qu.mono hx46.1
        have hb_dg := hb_dg.mono hx46.1
        have hb_s := hb_s.mono hx46.1
        have hb_xx := hb_xx.mono hx46.1
        have hb_yy := hb_yy.mono hx46.1
        have hb_zz := hb_zz.mono hx46.1
        have hOgs22a0 := hx46.2 _ _ hOgs22a0 (jnot_of rfl)
        have hKgs22a0 := hKgs22a0.mono hx46.1
        have hOfs12a1 := hx46.2 _ _ hOfs12a1 (jnot_of rfl)
        have hKfs12a1 := hKfs12a1.mono hx46.1
        have hAF3n22 := hx46.2 _ _ hAF3n22 (jnot_of rfl)
        have hAF10n22 := hx46.2 _ _ hAF10n22 (jnot_of rfl)
        cases hr46
        obtain ⟨DG46, hDa46, hDe46⟩ := hX46_0
        rw [hp3, show y45.toInt.toNat = (jnth L i2n22.toInt.toNat) by omega] at hDe46
        obtain ⟨hN_DG46, hv_DG46⟩ := WT_rngI (r := ((-2147483648), 2147483647)) hW id rfl hDa46
        clear hN_DG46
        refine Jz_iconst 0 dX5_countReached_49 (by decide) (fun y49 he49 => ?_)
        refine J_istore_n dX5_countReached_50 rfl (by decide) ?_
        have L51 : ∀ (N : Nat) (V : jH) (i3n51 : Int32) (gs51a0 : List Value) (g6n51 : Int32) (F3n51 : Nat → Int32) (F10n51 : Nat → Int32), WT V → jeff [.inr 3, .inr 1, .inl 6, .inl 34, .inl 35, .inl 36, .inl 3, .inl 10, .inl 11] V0 V → (jis V (.inr 3) a0) → (jis V (.inr 1) a1) → (jis V (.inl 3) st) → (jis V (.inl 10) qu) → (jis V (.inl 11) dg) → (jis V (.inl 6) s) → (jis V (.inl 34) xx) → (jis V (.inl 35) yy) → (jis V (.inl 36) zz) → (jrk a1 V0 V) → (V a0 = some (.inr (3, gs51a0))) → (gs51a0[3]? = some (.ref st)) → (gs51a0[4]? = some (.ref qu)) → (gs51a0[5]? = some (.ref dg)) → (gs51a0[0]? = some (.int g)) → (gs51a0[1]? = some (.int sn)) → (gs51a0[2]? = some (.int b)) → (gs51a0[6]? = some (.int g6n51)) → (V a1 = some (.inr (1, fs12a1))) → (jokO V (jFs 1) fs12a1) → (V st = some (.inl (3, R, .inl F3n51))) → (V qu = some (.inl (10, R, .inl F10n51))) → (V dg = some (.inl (11, 6, .inl DG46))) → (0 ≤ i3n51.toInt ∧ i3n51.toInt ≤ sn.toInt) → (jrs9 (jwlk g.toInt (jdir g.toInt).toNat sn.toInt.toNat) R F3n51 F10n51 g6n51.toInt (jtas g.toInt (jdir g.toInt).toNat sn.toInt.toNat (jtur g.toInt).toNat (jnth L i2n22.toInt.toNat) L (i3n51.toInt.toNat * (jtur g.toInt).toNat))) → (300 - i3n51.toInt).toNat < N → J tS mX5_countReached d 51 [some (.ref a0), some (.ref a1), some (.int i2n22), some (.int i3n51), none] [] V 0 0 (fun r V => (jPost [.inr 3, .inr 1, .inl 6, .inl 34, .inl 35, .inl 36, .inl 3, .inl 10, .inl 11] V0 (fun r _ => ∃ y : Int32, r = some (.int y) ∧ ((-2147483648) ≤ y.toInt) ∧ (y.toInt ≤ 2147483647) ∧ (y.toInt = (((jbf g.toInt (jdir g.toInt).toNat sn.toInt.toNat (jtur g.toInt).toNat (R + 1) 0 [0]).length : Nat) : Int)))) r V ∧ jrk a1 V0 V) := by
          intro N
          induction N with
          | zero => intro V i3n51 gs51a0 g6n51 F3n51 F10n51 hW he ha0 ha1 hb_st hb_qu hb_dg hb_s hb_xx hb_yy hb_zz hkr hOgs51a0 hFgs51a0_3 hFgs51a0_4 hFgs51a0_5 hFgs51a0_0 hFgs51a0_1 hFgs51a0_2 hFgs51a0_6 hOfs12a1 hKfs12a1 hAF3n51 hAF10n51 hDa46 hi3 hq3 hm; exact absurd hm (Nat.not_lt_zero _)
          | succ N ih =>
            intro V i3n51 gs51a0 g6n51 F3n51 F10n51 hW he ha0 ha1 hb_st hb_qu hb_dg hb_s hb_xx hb_yy hb_zz hkr hOgs51a0 hFgs51a0_3 hFgs51a0_4 hFgs51a0_5 hFgs51a0_0 hFgs51a0_1 hFgs51a0_2 hFgs51a0_6 hOfs12a1 hKfs12a1 hAF3n51 hAF10n51 hDa46 hi3 hq3 hm
            have ih51 := ih
            have hri3 := j_rng i3n51
            have hKgs51a0 : jokO V (jFs 3) gs51a0 := hW _ _ id hOgs51a0
            have hrgg6n51 : 0 ≤ g6n51.toInt ∧ g6n51.toInt ≤ 2147483647 := jok_rngI hKgs51a0 rfl hFgs51a0_6
            obtain ⟨hNF3n51, hvF3n51⟩ := WT_rngI (r := ((-128), 127)) hW id rfl hAF3n51
            clear hNF3n51
            obtain ⟨hNF10n51, hvF10n51⟩ := WT_rngI (r := ((-2147483648), 2147483647)) hW id rfl hAF10n51
            clear hNF10n51
            refine J_iload_n dX5_countReached_51 rfl ?_
            refine J_aload_n dX5_countReached_52 rfl ?_
            refine J_get jf_X5_31 dX5_countReached_53 hOgs51a0 hFgs51a0_1 ?_
            refine Jz_icmp_ge (tgt := 97) jEq.rf jEq.rf dX5_countReached_56 (by decide) (fun c56 => ?_) (fun c56 => ?_)
            · refine Jz_iinc 1 dX5_countReached_97 rfl rfl (by decide) jEq.rf (by decide) (by omega) (by omega) (fun y97 he97 => ?_)
              refine J_goto (tgt := 22) dX5_countReached_100 (by decide) ?_
              refine J.mask [true, true, true, false, false] ?_
              exact ih22 _ y97 gs51a0 g6n51 F3n51 F10n51 DG46 hW he ha0 ha1 hb_st hb_qu hb_dg hb_s hb_xx hb_yy hb_zz hkr hOgs51a0 hFgs51a0_3 hFgs51a0_4 hFgs51a0_5 hFgs51a0_0 hFgs51a0_1 hFgs51a0_2 hFgs51a0_6 hOfs12a1 hKfs12a1 hAF3n51 hAF10n51 hDa46 (by (try simp only [he97.eq, true_and, and_true]) <;> omega) (by rw [he97.eq, show (i2n22.toInt + 1).toNat = i2n22.toInt.toNat + 1 by omega]; exact ⟨_, (by have q := hq3; rw [show i3n51.toInt.toNat = sn.toInt.toNat by omega] at q; exact q), jbf_next (by omega) hln.2 hjb9⟩) (by (try simp only [he97.eq, true_and, and_true]) <;> omega)
            · refine Jz_iconst 0 dX5_countReached_59 (by decide) (fun y59 he59 => ?_)
              refine J_istore dX5_countReached_60 rfl (by decide) ?_
              have L62 : ∀ (N : Nat) (V : jH) (i4n62 : Int32) (gs62a0 : List Value) (g6n62 : Int32) (F3n62 : Nat → Int32) (F10n62 : Nat → Int32), WT V → jeff [.inr 3, .inr 1, .inl 6, .inl 34, .inl 35, .inl 36, .inl 3, .inl 10, .inl 11] V0 V → (jis V (.inr 3) a0) → (jis V (.inr 1) a1) → (jis V (.inl 3) st) → (jis V (.inl 10) qu) → (jis V (.inl 11) dg) → (jis V (.inl 6) s) → (jis V (.inl 34) xx) → (jis V (.inl 35) yy) → (jis V (.inl 36) zz) → (jrk a1 V0 V) → (V a0 = some (.inr (3, gs62a0))) → (gs62a0[3]? = some (.ref st)) → (gs62a0[4]? = some (.ref qu)) → (gs62a0[5]? = some (.ref dg)) → (gs62a0[0]? = some (.int g)) → (gs62a0[1]? = some (.int sn)) → (gs62a0[2]? = some (.int b)) → (gs62a0[6]? = some (.int g6n62)) → (V a1 = some (.inr (1, fs12a1))) → (jokO V (jFs 1) fs12a1) → (V st = some (.inl (3, R, .inl F3n62))) → (V qu = some (.inl (10, R, .inl F10n62))) → (V dg = some (.inl (11, 6, .inl DG46))) → (0 ≤ i4n62.toInt ∧ i4n62.toInt ≤ jtur g.toInt) → (jrs9 (jwlk g.toInt (jdir g.toInt).toNat sn.toInt.toNat) R F3n62 F10n62 g6n62.toInt (jtas g.toInt (jdir g.toInt).toNat sn.toInt.toNat (jtur g.toInt).toNat (jnth L i2n22.toInt.toNat) L (i3n51.toInt.toNat * (jtur g.toInt).toNat + i4n62.toInt.toNat))) → (300 - i4n62.toInt).toNat < N → J tS mX5_countReached d 62 [some (.ref a0), some (.ref a1), some (.int i2n22), some (.int i3n51), some (.int i4n62)] [] V 0 0 (fun r V => (jPost [.inr 3, .inr 1, .inl 6, .inl 34, .inl 35, .inl 36, .inl 3, .inl 10, .inl 11] V0 (fun r _ => ∃ y : Int32, r = some (.int y) ∧ ((-2147483648) ≤ y.toInt) ∧ (y.toInt ≤ 2147483647) ∧ (y.toInt = (((jbf g.toInt (jdir g.toInt).toNat sn.toInt.toNat (jtur g.toInt).toNat (R + 1) 0 [0]).length : Nat) : Int)))) r V ∧ jrk a1 V0 V) := by
                intro N
                induction N with
                | zero => intro V i4n62 gs62a0 g6n62 F3n62 F10n62 hW he ha0 ha1 hb_st hb_qu hb_dg hb_s hb_xx hb_yy hb_zz hkr hOgs62a0 hFgs62a0_3 hFgs62a0_4 hFgs62a0_5 hFgs62a0_0 hFgs62a0_1 hFgs62a0_2 hFgs62a0_6 hOfs12a1 hKfs12a1 hAF3n62 hAF10n62 hDa46 hi4 hq4 hm; exact absurd hm (Nat.not_lt_zero _)
                | succ N ih =>
                  intro V i4n62 gs62a0 g6n62 F3n62 F10n62 hW he ha0 ha1 hb_st hb_qu hb_dg hb_s hb_xx hb_yy hb_zz hkr hOgs62a0 hFgs62a0_3 hFgs62a0_4 hFgs62a0_5 hFgs62a0_0 hFgs62a0_1 hFgs62a0_2 hFgs62a0_6 hOfs12a1 hKfs12a1 hAF3n62 hAF10n62 hDa46 hi4 hq4 hm
                  have ih62 := ih
                  have hri4 := j_rng i4n62
                  have hKgs62a0 : jokO V (jFs 3) gs62a0 := hW _ _ id hOgs62a0
                  have hrgg6n62 : 0 ≤ g6n62.toInt ∧ g6n62.toInt ≤ 2147483647 := jok_rngI hKgs62a0 rfl hFgs62a0_6
                  obtain ⟨hNF3n62, hvF3n62⟩ := WT_rngI (r := ((-128), 127)) hW id rfl hAF3n62
                  clear hNF3n62
                  obtain ⟨hNF10n62, hvF10n62⟩ := WT_rngI (r := ((-2147483648), 2147483647)) hW id rfl hAF10n62
                  clear hNF10n62
                  refine J_iload dX5_countReached_62 rfl ?_
                  refine J_aload_n dX5_countReached_64 rfl ?_
                  refine J_get jf_X5_19 dX5_countReached_65 hOgs62a0 hFgs62a0_0 ?_
                  refine J_callS1 moX0_turns jw_ml_X5_66 jw_st_X0_turns dX5_countReached_68 (w_X0_turns_z (d - 1) _ g (by omega)   (by omega) (by omega)) (by omega) (Nat.zero_le _) (Nat.zero_le _) (Nat.le_of_ble_eq_true rfl) (fun r68 V68 h68 => ?_)
                  obtain ⟨⟨y68, rfl, hl68, hh68, hP68_0⟩, hE68⟩ := h68
                  have hE68 := hE68.symm
                  subst hE68
                  clear hl68 hh68
                  have hz68 : jEq y68.toInt (jtur (g.toInt)) := hP68_0
                  clear hP68_0
                  refine Jz_icmp_ge (tgt := 91) jEq.rf hz68 dX5_countReached_71 (by decide) (fun c71 => ?_) (fun c71 => ?_)
                  · refine Jz_iinc 1 dX5_countReached_91 rfl rfl (by decide) jEq.rf (by decide) (by omega) (by omega) (fun y91 he91 => ?_)
                    refine J_goto (tgt := 51) dX5_countReached_94 (by decide) ?_
                    refine J.mask [true, true, true, true, false] ?_
                    exact ih51 _ y91 gs62a0 g6n62 F3n62 F10n62 hW he ha0 ha1 hb_st hb_qu hb_dg hb_s hb_xx hb_yy hb_zz hkr hOgs62a0 hFgs62a0_3 hFgs62a0_4 hFgs62a0_5 hFgs62a0_0 hFgs62a0_1 hFgs62a0_2 hFgs62a0_6 hOfs12a1 hKfs12a1 hAF3n62 hAF10n62 hDa46 (by (try simp only [he91.eq, true_and, and_true]) <;> omega) (by rw [he91.eq, show (i3n51.toInt + 1).toNat = i3n51.toInt.toNat + 1 by omega, Nat.add_mul, Nat.one_mul]; have q := hq4; rw [show i4n62.toInt.toNat = (jtur g.toInt).toNat by omega] at q; exact q) (by (try simp only [he91.eq, true_and, and_true]) <;> omega)
                  · refine J_aload_n dX5_countReached_74 rfl ?_
                    refine J_aload_n dX5_countReached_75 rfl ?_
                    refine J_iload_n dX5_countReached_76 rfl ?_
                    refine J_iload dX5_countReached_77 rfl ?_
                    refine Jw_callV2 (q9 := (RX5, TX5, 7)) moX5_numberTurned jw_ml_X5_69 jw_im_X5_numberTurned jw_se_X5_numberTurned ha0 rfl rfl dX5_countReached_79 (w_X5_numberTurned_z (d - 1) _ a0 i3n51 i4n62 g sn b dg DG46 (by omega) hW  ha0 ⟨_, hOgs62a0, hFgs62a0_0⟩ ⟨_, hOgs62a0, hFgs62a0_1⟩ ⟨_, hOgs62a0, hFgs62a0_2⟩ ⟨_, hOgs62a0, hFgs62a0_5⟩ hDa46 (by omega) (by omega) (by omega) (by omega) (by omega) (by omega) (by omega) (by omega) (by omega) (fun i hi => by rw [hDe46 i hi]; have q := jdg9_b (D := (jdir g.toInt).toNat) (n := sn.toInt.toNat) (v := (jnth L i2n22.toInt.toNat)) (i := i) (by omega); omega)) (by omega) (Nat.zero_le _) (Nat.zero_le _) (Nat.le_of_ble_eq_true rfl) (fun r79 V79 h79 => ?_)
                    obtain ⟨⟨y79, rfl, hl79, hh79, hP79_0⟩, hE79⟩ := h79
                    have hE79 := hE79.symm
                    subst hE79
                    clear hl79 hh79
                    have e3 : ((i3n51.toInt.toNat : Nat) : Int) = i3n51.toInt := Int.toNat_of_nonneg (by omega)
                    have e4 : ((i4n62.toInt.toNat : Nat) : Int) = i4n62.toInt := Int.toNat_of_nonneg (by omega)
                    have hto : y79.toInt = ((jto g.toInt (jdir g.toInt).toNat sn.toInt.toNat (jnth L i2n22.toInt.toNat) i3n51.toInt.toNat i4n62.toInt : Nat) : Int) := by
                      rw [hP79_0]
                      exact congrArg (fun z : Nat => (z : Int)) (jto_eq e3 (fun i hi => hDe46 i (by omega)))
                    have htl : jto g.toInt (jdir g.toInt).toNat sn.toInt.toNat (jnth L i2n22.toInt.toNat) i3n51.toInt.toNat i4n62.toInt < R := by
                      rw [hp7]
                      exact jto_lt e3 ⟨hp1, hp2⟩ ⟨hi4.1, by omega⟩ hDn hD0
                    refine Jw_callV1 (q9 := (RX5, TX5, 7)) moX5_arriveAt jw_ml_X5_60 jw_im_X5_arriveAt jw_se_X5_arriveAt ha0 rfl rfl dX5_countReached_82 (w_X5_arriveAt_z (d - 1) _ a0 y79 g sn b g6n62 st qu R (jtas g.toInt (jdir g.toInt).toNat sn.toInt.toNat (jtur g.toInt).toNat (jnth L i2n22.toInt.toNat) L (i3n51.toInt.toNat * (jtur g.toInt).toNat + i4n62.toInt.toNat)) (jwlk g.toInt (jdir g.toInt).toNat sn.toInt.toNat) F3n62 F10n62 (by omega) hW  ha0 ⟨_, hOgs62a0, hFgs62a0_0⟩ ⟨_, hOgs62a0, hFgs62a0_1⟩ ⟨_, hOgs62a0, hFgs62a0_2⟩ ⟨_, hOgs62a0, hFgs62a0_6⟩ ⟨_, hOgs62a0, hFgs62a0_3⟩ ⟨_, hOgs62a0, hFgs62a0_4⟩ hAF3n62 hAF10n62 (by omega) (by omega) (by omega) hq4) (by omega) (Nat.zero_le _) (Nat.zero_le _) (Nat.le_of_ble_eq_true rfl) (fun r82 V82 h82 => ?_)
                    obtain ⟨h82, hX82_0, ⟨fv82_0, hfv82_0, hfp82_0⟩, ⟨fv82_1, hfv82_1, hfp82_1⟩, ⟨fv82_2, hfv82_2, hfp82_2⟩⟩ := h82
                    obtain ⟨hW, hx82, hr82⟩ := h82
                    have hkr := hkr.trans he.1 (jrk.of hx82 (jdis_of rfl))
                    have he := he.trans (hx82.sub (jsub_of rfl))
                    have ha0 := ha0.mono hx82.1
                    have ha1 := ha1.mono hx82.1
                    have hb_st := hb_st.mono hx82.1
                    have hb_qu := hb_qu.mono hx82.1
                    have hb_dg := hb_dg.mono hx82.1
                    have hb_s := hb_s.mono hx82.1
                    have hb_xx := hb_xx.mono hx82.1
                    have hb_yy := hb_yy.mono hx82.1
                    have hb_zz := hb_zz.mono hx82.1
                    obtain ⟨fs82a0, hOfs82a0, hRfs82a0⟩ := hx82.1.keep hOgs62a0
                    have hKfs82a0 : jokO _ (jFs 3) fs82a0 := hW _ _ id hOfs82a0
                    have hFfs82a0_3 := hRfs82a0 _ _ hFgs62a0_3
                    have hFfs82a0_4 := hRfs82a0 _ _ hFgs62a0_4
                    have hFfs82a0_5 := hRfs82a0 _ _ hFgs62a0_5
                    have hOfs12a1 := hx82.2 _ _ hOfs12a1 (jnot_of rfl)
                    have hKfs12a1 := hKfs12a1.mono hx82.1
                    have hDa46 := hx82.2 _ _ hDa46 (jnot_of rfl)
                    cases hr82
                    have hFv82_0 := hfv82_0.get hOfs82a0
                    have hsb82_0 : g = fv82_0 := (jI_inj.mp hfp82_0).symm
                    subst hsb82_0
                    have hFv82_1 := hfv82_1.get hOfs82a0
                    have hsb82_1 : sn = fv82_1 := (jI_inj.mp hfp82_1).symm
                    subst hsb82_1
                    have hFv82_2 := hfv82_2.get hOfs82a0
                    have hsb82_2 : b = fv82_2 := (jI_inj.mp hfp82_2).symm
                    subst hsb82_2
                    obtain ⟨T82, Q82, q82, hTa82, hQa82, hqf82, hrs82⟩ := hX82_0
                    have hq5 : jrs9 (jwlk g.toInt (jdir g.toInt).toNat sn.toInt.toNat) R T82 Q82 q82.toInt (jtas g.toInt (jdir g.toInt).toNat sn.toInt.toNat (jtur g.toInt).toNat (jnth L i2n22.toInt.toNat) L (i3n51.toInt.toNat * (jtur g.toInt).toNat + (i4n62.toInt.toNat + 1))) := by
                      rw [jtas_step (by omega), e4]
                      have q := hrs82
                      rw [show y79.toInt.toNat = jto g.toInt (jdir g.toInt).toNat sn.toInt.toNat (jnth L i2n22.toInt.toNat) i3n51.toInt.toNat i4n62.toInt by omega] at q
                      exact q
                    have hFv826 := hqf82.get hOfs82a0
                    obtain ⟨hN_T82, hv_T82⟩ := WT_rngI (r := ((-128), 127)) hW id rfl hTa82
                    clear hN_T82
                    obtain ⟨hN_Q82, hv_Q82⟩ := WT_rngI (r := ((-2147483648), 2147483647)) hW id rfl hQa82
                    clear hN_Q82
                    refine Jz_iinc 1 dX5_countReached_85 rfl rfl (by decide) jEq.rf (by decide) (by omega) (by omega) (fun y85 he85 => ?_)
                    refine J_goto (tgt := 62) dX5_countReached_88 (by decide) ?_
                    refine J.mask [true, true, true, true, true] ?_
                    exact ih62 _ y85 fs82a0 q82 T82 Q82 hW he ha0 ha1 hb_st hb_qu hb_dg hb_s hb_xx hb_yy hb_zz hkr hOfs82a0 hFfs82a0_3 hFfs82a0_4 hFfs82a0_5 hFv82_0 hFv82_1 hFv82_2 hFv826 hOfs12a1 hKfs12a1 hTa82 hQa82 hDa46 (by (try simp only [he85.eq, true_and, and_true]) <;> omega) (by rw [he85.eq, show (i4n62.toInt + 1).toNat = i4n62.toInt.toNat + 1 by omega]; exact hq5) (by (try simp only [he85.eq, true_and, and_true]) <;> omega)
              refine J.mask [true, true, true, true, true] ?_
              exact L62 _ _ y59 gs51a0 g6n51 F3n51 F10n51 hW he ha0 ha1 hb_st hb_qu hb_dg hb_s hb_xx hb_yy hb_zz hkr hOgs51a0 hFgs51a0_3 hFgs51a0_4 hFgs51a0_5 hFgs51a0_0 hFgs51a0_1 hFgs51a0_2 hFgs51a0_6 hOfs12a1 hKfs12a1 hAF3n51 hAF10n51 hDa46 (by (try simp only [he59.eq, true_and, and_true]) <;> omega) (by rw [he59.eq, show (0 : Int).toNat = 0 from rfl, Nat.add_zero]; exact hq3) (Nat.lt_succ_self _)
        refine J.mask [true, true, true, true, false] ?_
        exact L51 _ _ y49 gs22a0 g6n22 F3n22 F10n22 hW he ha0 ha1 hb_st hb_qu hb_dg hb_s hb_xx hb_yy hb_zz hkr hOgs22a0 hFgs22a0_3 hFgs22a0_4 hFgs22a0_5 hFgs22a0_0 hFgs22a0_1 hFgs22a0_2 hFgs22a0_6 hOfs12a1 hKfs12a1 hAF3n22 hAF10n22 hDa46 (by (try simp only [he49.eq, true_and, and_true]) <;> omega) (by rw [he49.eq, show (0 : Int).toNat = 0 from rfl, Nat.zero_mul]; exact hrs) (Nat.lt_succ_self _)
  refine J.mask [true, true, true, false, false] ?_
  exact L22 _ _ y20 fs17a0 q17 T17 Q17 DG hW he ha0 ha1 hb_st hb_qu hb_dg hb_s hb_xx hb_yy hb_zz hkr hOfs17a0 hFfs17a0_3 hFfs17a0_4 hFfs17a0_5 hFv17_0 hFv17_1 hFv17_2 hFv176 hOfs12a1 hKfs12a1 hTa17 hQa17 ha_DG (by (try simp only [he20.eq, true_and, and_true]) <;> omega) (by rw [he20.eq]; exact ⟨[0], hrs1, rfl⟩) (Nat.lt_succ_self _)
set_option maxRecDepth 100000 in
set_option maxHeartbeats 8000000 in
theorem w_X6_reach_zbad {tS : jTS} (d : Nat) (V0 : jH) (a0 : Nat) (x1 : Int32) (x2 : Int32) (hd : 14 ≤ d) (hW : WT V0) (ha0 : jis V0 (.inr 4) a0) (hbad : x1 < 0 ∨ Int32.ofNat 4 ≤ x1 ∨ x2 < 1 ∨ ¬ x2 ≤ 20) : jTot tS mX6_reach d [.ref a0, .int x1, .int x2] V0 0 0 (fun r V => (fun r _ => ∃ y : Int32, r = some (.int y) ∧ ((-2147483648) ≤ y.toInt) ∧ (y.toInt ≤ 2147483647) ∧ (y.toInt = -2)) r V ∧ V = V0) := by
  refine jTot.of_J [some (.ref a0), some (.int x1), some (.int x2), none, none, none] moX6_reach (Nat.le_of_ble_eq_true rfl) rfl ?_
  have hrx1 := j_rng x1
  have hrx2 := j_rng x2
  have he : jeff [] V0 V0 := jeff.refl _ _
  refine J_aload_n dX6_reach_0 rfl ?_
  refine J_iload_n dX6_reach_1 rfl ?_
  refine J_iload_n dX6_reach_2 rfl ?_
  refine Jz_iconst 1 dX6_reach_3 (by decide) (fun y3 he3 => ?_)
  refine Jw_callV3 (q9 := (RX6, TX6, 7)) moX6_tallyFor jw_ml_X6_149 jw_im_X6_tallyFor jw_se_X6_tallyFor ha0 rfl rfl dX6_reach_4 (w_X6_tallyFor_bad (d - 1) _ _ _ _ _ (by omega) hW ha0 (by rw [(jI_inj.mp (he3.eq.trans rfl) : y3 = 1)]; exact hbad)) (by omega) (Nat.zero_le _) (Nat.zero_le _) (Nat.le_of_ble_eq_true rfl) (fun r4 V4 h4 => ?_)
  obtain ⟨rfl, hE4⟩ := h4
  have hE4 := hE4.symm
  subst hE4
  · refine J_astore_nN dX6_reach_7 rfl (by decide) ?_
    refine J_aload_nN dX6_reach_8 rfl ?_
    refine J_ifnullN (tgt := 23) dX6_reach_9 (by decide) ?_
    refine Jz_bipush (-2) dX6_reach_23 (by decide) (fun y23 he23 => ?_)
    exact J_ret (r := some (.int _)) dX6_reach_25 ⟨rfl, _, rfl, rfl⟩ (⟨⟨_, rfl, (j_rng _).1, (j_rng _).2, (by (try simp only [he23.eq, true_and, and_true]) <;> omega)⟩, rfl⟩)
set_option maxRecDepth 100000 in
set_option maxHeartbeats 8000000 in
theorem w_X6_reach_zq {tS : jTS} (d : Nat) (V0 : jH) (a0 : Nat) (x1 : Int32) (x2 : Int32) (fs : List Value) (tl : Nat) (f : Nat → Option Nat) (j : Nat) (t : Nat) (ts : List Value) (rc : Nat) (h : Nat → Int32) (hd : 14 ≤ d) (hW : WT V0) (ha0 : jis V0 (.inr 4) a0) (hx : V0 a0 = some (.inr (4, fs))) (h5 : fs[5]? = some (.ref tl)) (htl : V0 tl = some (.inl (5, 4, .inr (.inr (.inr (.inr f)))))) (hg : x1 = nI j) (hj : j < 4) (hb1 : ¬ x1 < 0) (hb2 : ¬ Int32.ofNat 4 ≤ x1) (hb3 : ¬ x2 < 1) (hb4 : x2 ≤ 20) (hf : f j = some t) (ht : V0 t = some (.inr (2, ts))) (h9 : ts[9]? = some (.ref rc)) (hrc : V0 rc = some (.inl (9, 7, .inl h))) (hre : ∀ n : Nat, n < 7 → (h n).toInt = -1 ∨ (h n).toInt = ((jre (j : Int) n : Nat) : Int)) (hp0 : 1 ≤ x2.toInt) (hp1 : x2.toInt ≤ 20) (hp2 : x1.toInt = 2 ∨ 6 < x2.toInt ∨ 10000 < jpw (jdir x1.toInt) x2.toInt.toNat ∨ ¬ (h x2.toInt.toNat).toInt = -1) : jTot tS mX6_reach d [.ref a0, .int x1, .int x2] V0 0 0 (fun r V => (fun r _ => ∃ y : Int32, r = some (.int y) ∧ ((-2147483648) ≤ y.toInt) ∧ (y.toInt ≤ 2147483647) ∧ (((x1.toInt = 2 ∨ 6 < x2.toInt) ∧ y.toInt = -2) ∨ (¬ x1.toInt = 2 ∧ x2.toInt ≤ 6 ∧ ((10000 < jpw (jdir x1.toInt) x2.toInt.toNat ∧ y.toInt = -5) ∨ (jpw (jdir x1.toInt) x2.toInt.toNat ≤ 10000 ∧ y.toInt = ((jre (j : Int) x2.toInt.toNat : Nat) : Int)))))) r V ∧ V = V0) := by
  refine jTot.of_J [some (.ref a0), some (.int x1), some (.int x2), none, none, none] moX6_reach (Nat.le_of_ble_eq_true rfl) rfl ?_
  have hrx1 := j_rng x1
  have hrx2 := j_rng x2
  have he : jeff [] V0 V0 := jeff.refl _ _
  have hKx : jokO V0 (jFs 4) fs := hW _ _ id hx
  have htlk : jis V0 (.inl 5) tl := ⟨_, htl, rfl⟩
  have hN4 : (4 : Nat) < 2 ^ 31 := by decide
  have hvt : ∀ (j b : Nat), j < 4 → f j = some b → jis V0 (.inr 2) b := by
    obtain ⟨n9, f9, h91, h92, h93, h94⟩ := WT_arrR hW id rfl htlk
    cases htl.symm.trans h91
    exact h94
  have hjj : ∀ j2 : Nat, x1 = nI j2 → j2 < 4 → j2 = j := fun j2 h1 h2 => by
    have h3 : x1.toNatClampNeg = j2 := by rw [h1]; exact nI_clamp (by omega)
    have h4 : x1.toNatClampNeg = j := by rw [hg]; exact nI_clamp (by omega)
    omega
  clear hN4
  have hbt : jis V0 (.inr 2) t := ⟨_, ht, rfl⟩
  have hKt : jokO V0 (jFs 2) ts := hW _ _ id ht
  have hbrc : jis V0 (.inl 9) rc := ⟨_, hrc, rfl⟩
  obtain ⟨hNrc, hvrc⟩ := WT_rngI (r := (-2147483648, 2147483647)) hW id rfl hrc
  clear hNrc
  have ho : ∀ j2, x1 = nI j2 → j2 < 4 → ∃ t2, f j2 = some t2 := fun j2 h1 h2 => ⟨t, by rw [hjj j2 h1 h2]; exact hf⟩
  refine J_aload_n dX6_reach_0 rfl ?_
  refine J_iload_n dX6_reach_1 rfl ?_
  refine J_iload_n dX6_reach_2 rfl ?_
  refine Jz_iconst 1 dX6_reach_3 (by decide) (fun y3 he3 => ?_)
  refine Jw_callV3 (q9 := (RX6, TX6, 7)) moX6_tallyFor jw_ml_X6_149 jw_im_X6_tallyFor jw_se_X6_tallyFor ha0 rfl rfl dX6_reach_4 (w_X6_tallyFor_old (d - 1) _ _ _ _ _ fs tl f (by omega) hW ha0 hx h5 htl ho hb1 hb2 (by rw [(jI_inj.mp (he3.eq.trans rfl) : y3 = 1)]; exact hb3) hb4) (by omega) (Nat.zero_le _) (Nat.zero_le _) (Nat.le_of_ble_eq_true rfl) (fun r4 V4 h4 => ?_)
  obtain ⟨hr4, hE4⟩ := h4
  have hE4 := hE4.symm
  subst hE4
  obtain ⟨j2, t2, hj2, hg2, ht2, rfl⟩ := hr4
  · have hj3 := (hjj j2 hg2 hj2).symm
    subst hj3
    have ht3 := Option.some.inj (hf.symm.trans ht2)
    subst ht3
    refine J_astore_n dX6_reach_7 rfl (by decide) ?_
    refine J_aload_n dX6_reach_8 rfl ?_
    refine J_ifnull dX6_reach_9 ?_
    refine J_iload_n dX6_reach_12 rfl ?_
    refine Jz_iconst 2 dX6_reach_13 (by decide) (fun y13 he13 => ?_)
    refine Jz_icmp_eq (tgt := 23) jEq.rf he13 dX6_reach_14 (by decide) (fun c14 => ?_) (fun c14 => ?_)
    · refine Jz_bipush (-2) dX6_reach_23 (by decide) (fun y23 he23 => ?_)
      exact J_ret (r := some (.int _)) dX6_reach_25 ⟨rfl, _, rfl, rfl⟩ (⟨⟨_, rfl, (j_rng _).1, (j_rng _).2, (Or.inl ⟨by omega, he23.eq⟩)⟩, rfl⟩)
    · refine J_iload_n dX6_reach_17 rfl ?_
      refine Jz_bipush 6 dX6_reach_18 (by decide) (fun y18 he18 => ?_)
      refine Jz_icmp_le (tgt := 26) jEq.rf he18 dX6_reach_20 (by decide) (fun c20 => ?_) (fun c20 => ?_)
      · refine Jz_iconst 1 dX6_reach_26 (by decide) (fun y26 he26 => ?_)
        refine J_istore dX6_reach_27 rfl (by decide) ?_
        refine Jz_iconst 0 dX6_reach_29 (by decide) (fun y29 he29 => ?_)
        refine J_istore dX6_reach_30 rfl (by decide) ?_
        have L32 : ∀ (N : Nat) (i4n32 : Int32) (i5n32 : Int32), (0 ≤ i5n32.toInt ∧ i5n32.toInt ≤ x2.toInt) → (i4n32.toInt = jpw (jdir x1.toInt) i5n32.toInt.toNat) → (300 - i5n32.toInt).toNat < N → J tS mX6_reach d 32 [some (.ref a0), some (.int x1), some (.int x2), some (.ref t), some (.int i4n32), some (.int i5n32)] [] V0 0 0 (fun r V => (fun r _ => ∃ y : Int32, r = some (.int y) ∧ ((-2147483648) ≤ y.toInt) ∧ (y.toInt ≤ 2147483647) ∧ (((x1.toInt = 2 ∨ 6 < x2.toInt) ∧ y.toInt = -2) ∨ (¬ x1.toInt = 2 ∧ x2.toInt ≤ 6 ∧ ((10000 < jpw (jdir x1.toInt) x2.toInt.toNat ∧ y.toInt = -5) ∨ (jpw (jdir x1.toInt) x2.toInt.toNat ≤ 10000 ∧ y.toInt = ((jre (j : Int) x2.toInt.toNat : Nat) : Int)))))) r V ∧ V = V0) := by
          intro N
          induction N with
          | zero => intro i4n32 i5n32  hi5 hpw hm; exact absurd hm (Nat.not_lt_zero _)
          | succ N ih =>
            intro i4n32 i5n32  hi5 hpw hm
            have ih32 := ih
            have hri5 := j_rng i5n32
            refine J_iload dX6_reach_32 rfl ?_
            refine J_iload_n dX6_reach_34 rfl ?_
            refine Jz_icmp_ge (tgt := 53) jEq.rf jEq.rf dX6_reach_35 (by decide) (fun c35 => ?_) (fun c35 => ?_)
            · have hall : i4n32.toInt = jpw (jdir x1.toInt) x2.toInt.toNat := by rw [hpw, show i5n32.toInt.toNat = x2.toInt.toNat by omega]
              refine J_iload dX6_reach_53 rfl ?_
              refine Jz_sipush 10000 dX6_reach_55 (by decide) (fun y55 he55 => ?_)
              refine Jz_icmp_le (tgt := 64) jEq.rf he55 dX6_reach_58 (by decide) (fun c58 => ?_) (fun c58 => ?_)
              · refine J_aload_n dX6_reach_64 rfl ?_
                refine J_get jf_X6_190 dX6_reach_65 ht h9 ?_
                refine J_iload_n dX6_reach_68 rfl ?_
                refine J_callS2 moX6_cell jw_ml_X6_110 jw_st_X6_cell dX6_reach_69 (w_X6_cell_x (d - 1) _ _ _ hrc (by decide) rfl (by omega) (by omega)) (by omega) (Nat.zero_le _) (Nat.zero_le _) (Nat.le_of_ble_eq_true rfl) (fun r69 V69 h69 => ?_)
                obtain ⟨⟨y69, rfl, hf69⟩, hE69⟩ := h69
                have hE69 := hE69.symm
                subst hE69
                · refine Jz_iconst (-1) dX6_reach_72 (by decide) (fun y72 he72 => ?_)
                  refine Jz_icmp_ne (tgt := 102) jEq.rf he72 dX6_reach_73 (by decide) (fun c73 => ?_) (fun c73 => ?_)
                  · refine J_aload_n dX6_reach_102 rfl ?_
                    refine J_get jf_X6_190 dX6_reach_103 ht h9 ?_
                    refine J_iload_n dX6_reach_106 rfl ?_
                    refine J_callS2 moX6_cell jw_ml_X6_110 jw_st_X6_cell dX6_reach_107 (w_X6_cell_x (d - 1) _ _ _ hrc (by decide) rfl (by omega) (by omega)) (by omega) (Nat.zero_le _) (Nat.zero_le _) (Nat.le_of_ble_eq_true rfl) (fun r107 V107 h107 => ?_)
                    obtain ⟨⟨y107, rfl, hf107⟩, hE107⟩ := h107
                    have hE107 := hE107.symm
                    subst hE107
                    · exact J_ret (r := some (.int _)) dX6_reach_110 ⟨rfl, _, rfl, rfl⟩ (⟨⟨_, rfl, (j_rng _).1, (j_rng _).2, (Or.inr ⟨by omega, by omega, Or.inr ⟨by omega, by rw [← hf107]; exact (hre x2.toInt.toNat (by omega)).elim (fun q => absurd q (by rw [hf69]; omega)) id⟩⟩)⟩, rfl⟩)
                  · exact False.elim (by rw [hf69] at hp2; omega)
              · refine Jz_bipush (-5) dX6_reach_61 (by decide) (fun y61 he61 => ?_)
                exact J_ret (r := some (.int _)) dX6_reach_63 ⟨rfl, _, rfl, rfl⟩ (⟨⟨_, rfl, (j_rng _).1, (j_rng _).2, (Or.inr ⟨by omega, by omega, Or.inl ⟨by omega, he61.eq⟩⟩)⟩, rfl⟩)
            · refine J_iload dX6_reach_38 rfl ?_
              refine J_iload_n dX6_reach_40 rfl ?_
              refine J_callS1 moX0_directions jw_ml_X6_187 jw_st_X0_directions dX6_reach_41 (w_X0_directions_z (d - 1) _ x1 (by omega)   ) (by omega) (Nat.zero_le _) (Nat.zero_le _) (Nat.le_of_ble_eq_true rfl) (fun r41 V41 h41 => ?_)
              obtain ⟨⟨y41, rfl, hl41, hh41, hP41_0⟩, hE41⟩ := h41
              have hE41 := hE41.symm
              subst hE41
              have hz41 : jEq y41.toInt (jdir (x1.toInt)) := hP41_0
              simp only [hP41_0] at hl41 hh41
              clear hP41_0
              have hjd := jdir_cases x1.toInt
              have hq1 : i4n32.toInt * jdir x1.toInt = jpw (jdir x1.toInt) (i5n32.toInt.toNat + 1) := by rw [hpw, Int.mul_comm]; rfl
              have hq2 := jpw_le6 (d := jdir x1.toInt) (by omega) (by omega) (n := i5n32.toInt.toNat + 1) (by omega)
              have hq3 := jpw_pos (d := jdir x1.toInt) (by omega) (i5n32.toInt.toNat + 1)
              refine Jz_imul jEq.rf hz41 dX6_reach_44 (by omega) (by omega) (fun y44 he44 => ?_)
              refine J_istore dX6_reach_45 rfl (by decide) ?_
              refine Jz_iinc 1 dX6_reach_47 rfl rfl (by decide) jEq.rf (by decide) (by omega) (by omega) (fun y47 he47 => ?_)
              refine J_goto (tgt := 32) dX6_reach_50 (by decide) ?_
              refine J.mask [true, true, true, true, true, true] ?_
              exact ih32  y44 y47  (by (try simp only [he44.eq, he47.eq, true_and, and_true]) <;> omega) (by rw [he44.eq, Int.mul_comm, hpw, he47.eq, show (i5n32.toInt + 1).toNat = i5n32.toInt.toNat + 1 by omega]; rfl) (by (try simp only [he44.eq, he47.eq, true_and, and_true]) <;> omega)
        refine J.mask [true, true, true, true, true, true] ?_
        exact L32 _  y26 y29    (by (try simp only [he26.eq, he29.eq, true_and, and_true]) <;> omega) (by rw [he26.eq, he29.eq]; rfl) (Nat.lt_succ_self _)
      · refine Jz_bipush (-2) dX6_reach_23 (by decide) (fun y23 he23 => ?_)
        exact J_ret (r := some (.int _)) dX6_reach_25 ⟨rfl, _, rfl, rfl⟩ (⟨⟨_, rfl, (j_rng _).1, (j_rng _).2, (Or.inl ⟨by omega, he23.eq⟩)⟩, rfl⟩)
set_option maxRecDepth 100000 in
set_option maxHeartbeats 8000000 in
theorem w_X6_reach_za {tS : jTS} (d : Nat) (V0 : jH) (a0 : Nat) (x1 : Int32) (x2 : Int32) (fs : List Value) (tl : Nat) (f : Nat → Option Nat) (j : Nat) (t : Nat) (ts : List Value) (rc : Nat) (h : Nat → Int32) (tr : Nat) (MT : Int32) (gT : Int32) (nT : Int32) (sT : Nat) (xxT : Nat) (yyT : Nat) (zzT : Nat) (ST : Nat → Int32) (XT : Nat → Int32) (YT : Nat → Int32) (ZT : Nat → Int32) (hd : 14 ≤ d) (hW : WT V0) (ha0 : jis V0 (.inr 4) a0) (hx : V0 a0 = some (.inr (4, fs))) (h5 : fs[5]? = some (.ref tl)) (htl : V0 tl = some (.inl (5, 4, .inr (.inr (.inr (.inr f)))))) (hg : x1 = nI j) (hj : j < 4) (hb1 : ¬ x1 < 0) (hb2 : ¬ Int32.ofNat 4 ≤ x1) (hb3 : ¬ x2 < 1) (hb4 : x2 ≤ 20) (hf : f j = some t) (ht : V0 t = some (.inr (2, ts))) (h9 : ts[9]? = some (.ref rc)) (hrc : V0 rc = some (.inl (9, 7, .inl h))) (hf_MT : jfI V0 tr 1 0 MT) (hf_gT : jfI V0 tr 1 5 gT) (hf_nT : jfI V0 tr 1 6 nT) (hr_sT : jfR V0 tr 1 1 sT) (hr_xxT : jfR V0 tr 1 2 xxT) (hr_yyT : jfR V0 tr 1 3 yyT) (hr_zzT : jfR V0 tr 1 4 zzT) (ha_ST : V0 sT = some (.inl (6, 120, .inl ST))) (ha_XT : V0 xxT = some (.inl (34, 121, .inl XT))) (ha_YT : V0 yyT = some (.inl (35, 121, .inl YT))) (ha_ZT : V0 zzT = some (.inl (36, 121, .inl ZT))) (hm_tr : MT.toInt = 120) (hn_tr : nT.toInt ≤ 120) (hr_tr : jfR V0 a0 4 2 tr) (hp0 : 1 ≤ x2.toInt) (hp1 : x2.toInt ≤ 20) (hp2 : ¬ x1.toInt = 2) (hp3 : x2.toInt ≤ 6) (hp4 : jpw (jdir x1.toInt) x2.toInt.toNat ≤ 10000) (hp5 : (h x2.toInt.toNat).toInt = -1) (hp6 : (XT 0).toInt = 0) (hp7 : (YT 0).toInt = 0) (hp8 : (ZT 0).toInt = 0) : jTot tS mX6_reach d [.ref a0, .int x1, .int x2] V0 4 20013 (fun r V => (jPost [.inr 3, .inr 1, .inl 6, .inl 34, .inl 35, .inl 36, .inl 3, .inl 10, .inl 11, .inl 9] V0 (fun r _ => ∃ y : Int32, r = some (.int y) ∧ ((-2147483648) ≤ y.toInt) ∧ (y.toInt ≤ 2147483647) ∧ (y.toInt = ((jre (j : Int) x2.toInt.toNat : Nat) : Int)))) r V ∧ jle9 V0 V ∧ (∃ G : Nat → Int32, V rc = some (.inl (9, 7, .inl G)) ∧ jcn (-1) G 7 = jcn (-1) h 7 + 1 ∧ (G x2.toInt.toNat).toInt = ((jre (j : Int) x2.toInt.toNat : Nat) : Int) ∧ ∀ k : Nat, k ≠ x2.toInt.toNat → G k = h k) ∧ jfk rc V0 V ∧ jrt a0 V0 V) := by
  refine jTot.of_J [some (.ref a0), some (.int x1), some (.int x2), none, none, none] moX6_reach (Nat.le_of_ble_eq_true rfl) rfl ?_
  have hrx1 := j_rng x1
  have hrx2 := j_rng x2
  have he : jeff [.inr 3, .inr 1, .inl 6, .inl 34, .inl 35, .inl 36, .inl 3, .inl 10, .inl 11, .inl 9] V0 V0 := jeff.refl _ _
  have hkr : jrt a0 V0 V0 := jrt.rf
  have hj9 : jle9 V0 V0 := jle9.rf
  have hKx : jokO V0 (jFs 4) fs := hW _ _ id hx
  have htlk : jis V0 (.inl 5) tl := ⟨_, htl, rfl⟩
  have hN4 : (4 : Nat) < 2 ^ 31 := by decide
  have hvt : ∀ (j b : Nat), j < 4 → f j = some b → jis V0 (.inr 2) b := by
    obtain ⟨n9, f9, h91, h92, h93, h94⟩ := WT_arrR hW id rfl htlk
    cases htl.symm.trans h91
    exact h94
  have hjj : ∀ j2 : Nat, x1 = nI j2 → j2 < 4 → j2 = j := fun j2 h1 h2 => by
    have h3 : x1.toNatClampNeg = j2 := by rw [h1]; exact nI_clamp (by omega)
    have h4 : x1.toNatClampNeg = j := by rw [hg]; exact nI_clamp (by omega)
    omega
  clear hN4
  have hbt : jis V0 (.inr 2) t := ⟨_, ht, rfl⟩
  have hKt : jokO V0 (jFs 2) ts := hW _ _ id ht
  have hbrc : jis V0 (.inl 9) rc := ⟨_, hrc, rfl⟩
  obtain ⟨hNrc, hvrc⟩ := WT_rngI (r := (-2147483648, 2147483647)) hW id rfl hrc
  clear hNrc
  have ho : ∀ j2, x1 = nI j2 → j2 < 4 → ∃ t2, f j2 = some t2 := fun j2 h1 h2 => ⟨t, by rw [hjj j2 h1 h2]; exact hf⟩
  have hgj : x1.toInt = (j : Int) := by rw [hg]; exact nI_toInt (by omega)
  have hb_tr : jis V0 (.inr 1) tr := by obtain ⟨q1, q2, q3⟩ := hf_MT; exact ⟨_, q2, rfl⟩
  obtain ⟨fs_tr, hO_tr, hK_tr⟩ := WT_obj hW id hb_tr
  have hF_MT := hf_MT.get hO_tr
  have hrMT : 0 ≤ MT.toInt ∧ MT.toInt ≤ 120 := jok_rngI hK_tr rfl hF_MT
  have hF_gT := hf_gT.get hO_tr
  have hrgT : (-2147483648) ≤ gT.toInt ∧ gT.toInt ≤ 2147483647 := jok_rngI hK_tr rfl hF_gT
  have hF_nT := hf_nT.get hO_tr
  have hrnT : 0 ≤ nT.toInt ∧ nT.toInt ≤ 120 := jok_rngI hK_tr rfl hF_nT
  have hF_sT := hr_sT.get hO_tr
  have hb_sT : jis V0 (.inl 6) sT := ⟨_, ha_ST, rfl⟩
  obtain ⟨hN_ST, hv_ST⟩ := WT_rngI (r := (-2147483648, 2147483647)) hW id rfl ha_ST
  clear hN_ST
  have hF_xxT := hr_xxT.get hO_tr
  have hb_xxT : jis V0 (.inl 34) xxT := ⟨_, ha_XT, rfl⟩
  obtain ⟨hN_XT, hv_XT⟩ := WT_rngI (r := (-2147483648, 2147483647)) hW id rfl ha_XT
  clear hN_XT
  have hF_yyT := hr_yyT.get hO_tr
  have hb_yyT : jis V0 (.inl 35) yyT := ⟨_, ha_YT, rfl⟩
  obtain ⟨hN_YT, hv_YT⟩ := WT_rngI (r := (-2147483648, 2147483647)) hW id rfl ha_YT
  clear hN_YT
  have hF_zzT := hr_zzT.get hO_tr
  have hb_zzT : jis V0 (.inl 36) zzT := ⟨_, ha_ZT, rfl⟩
  obtain ⟨hN_ZT, hv_ZT⟩ := WT_rngI (r := (-2147483648, 2147483647)) hW id rfl ha_ZT
  clear hN_ZT
  have hF_tr := hr_tr.get hx
  have hz0 := hp6
  have hz1 := hp7
  have hz2 := hp8
  have hfk : jfk rc V0 V0 := jfk.rf
  refine J_aload_n dX6_reach_0 rfl ?_
  refine J_iload_n dX6_reach_1 rfl ?_
  refine J_iload_n dX6_reach_2 rfl ?_
  refine Jz_iconst 1 dX6_reach_3 (by decide) (fun y3 he3 => ?_)
  refine Jw_callV3 (q9 := (RX6, TX6, 7)) moX6_tallyFor jw_ml_X6_149 jw_im_X6_tallyFor jw_se_X6_tallyFor ha0 rfl rfl dX6_reach_4 (w_X6_tallyFor_old (d - 1) _ _ _ _ _ fs tl f (by omega) hW ha0 hx h5 htl ho hb1 hb2 (by rw [(jI_inj.mp (he3.eq.trans rfl) : y3 = 1)]; exact hb3) hb4) (by omega) (Nat.zero_le _) (Nat.zero_le _) (Nat.le_of_ble_eq_true rfl) (fun r4 V4 h4 => ?_)
  obtain ⟨hr4, hE4⟩ := h4
  have hE4 := hE4.symm
  subst hE4
  obtain ⟨j2, t2, hj2, hg2, ht2, rfl⟩ := hr4
  · have hj3 := (hjj j2 hg2 hj2).symm
    subst hj3
    have ht3 := Option.some.inj (hf.symm.trans ht2)
    subst ht3
    refine J_astore_n dX6_reach_7 rfl (by decide) ?_
    refine J_aload_n dX6_reach_8 rfl ?_
    refine J_ifnull dX6_reach_9 ?_
    refine J_iload_n dX6_reach_12 rfl ?_
    refine Jz_iconst 2 dX6_reach_13 (by decide) (fun y13 he13 => ?_)
    refine Jz_icmp_eq (tgt := 23) jEq.rf he13 dX6_reach_14 (by decide) (fun c14 => ?_) (fun c14 => ?_)
    · exact False.elim (by omega)
    · refine J_iload_n dX6_reach_17 rfl ?_
      refine Jz_bipush 6 dX6_reach_18 (by decide) (fun y18 he18 => ?_)
      refine Jz_icmp_le (tgt := 26) jEq.rf he18 dX6_reach_20 (by decide) (fun c20 => ?_) (fun c20 => ?_)
      · refine Jz_iconst 1 dX6_reach_26 (by decide) (fun y26 he26 => ?_)
        refine J_istore dX6_reach_27 rfl (by decide) ?_
        refine Jz_iconst 0 dX6_reach_29 (by decide) (fun y29 he29 => ?_)
        refine J_istore dX6_reach_30 rfl (by decide) ?_
        have L32 : ∀ (N : Nat) (i4n32 : Int32) (i5n32 : Int32), (0 ≤ i5n32.toInt ∧ i5n32.toInt ≤ x2.toInt) → (i4n32.toInt = jpw (jdir x1.toInt) i5n32.toInt.toNat) → (300 - i5n32.toInt).toNat < N → J tS mX6_reach d 32 [some (.ref a0), some (.int x1), some (.int x2), some (.ref t), some (.int i4n32), some (.int i5n32)] [] V0 4 20013 (fun r V => (jPost [.inr 3, .inr 1, .inl 6, .inl 34, .inl 35, .inl 36, .inl 3, .inl 10, .inl 11, .inl 9] V0 (fun r _ => ∃ y : Int32, r = some (.int y) ∧ ((-2147483648) ≤ y.toInt) ∧ (y.toInt ≤ 2147483647) ∧ (y.toInt = ((jre (j : Int) x2.toInt.toNat : Nat) : Int)))) r V ∧ jle9 V0 V ∧ (∃ G : Nat → Int32, V rc = some (.inl (9, 7, .inl G)) ∧ jcn (-1) G 7 = jcn (-1) h 7 + 1 ∧ (G x2.toInt.toNat).toInt = ((jre (j : Int) x2.toInt.toNat : Nat) : Int) ∧ ∀ k : Nat, k ≠ x2.toInt.toNat → G k = h k) ∧ jfk rc V0 V ∧ jrt a0 V0 V) := by
          intro N
          induction N with
          | zero => intro i4n32 i5n32  hi5 hpw hm; exact absurd hm (Nat.not_lt_zero _)
          | succ N ih =>
            intro i4n32 i5n32  hi5 hpw hm
            have ih32 := ih
            have hri5 := j_rng i5n32
            refine J_iload dX6_reach_32 rfl ?_
            refine J_iload_n dX6_reach_34 rfl ?_
            refine Jz_icmp_ge (tgt := 53) jEq.rf jEq.rf dX6_reach_35 (by decide) (fun c35 => ?_) (fun c35 => ?_)
            · have hall : i4n32.toInt = jpw (jdir x1.toInt) x2.toInt.toNat := by rw [hpw, show i5n32.toInt.toNat = x2.toInt.toNat by omega]
              refine J_iload dX6_reach_53 rfl ?_
              refine Jz_sipush 10000 dX6_reach_55 (by decide) (fun y55 he55 => ?_)
              refine Jz_icmp_le (tgt := 64) jEq.rf he55 dX6_reach_58 (by decide) (fun c58 => ?_) (fun c58 => ?_)
              · refine J_aload_n dX6_reach_64 rfl ?_
                refine J_get jf_X6_190 dX6_reach_65 ht h9 ?_
                refine J_iload_n dX6_reach_68 rfl ?_
                refine J_callS2 moX6_cell jw_ml_X6_110 jw_st_X6_cell dX6_reach_69 (w_X6_cell_x (d - 1) _ _ _ hrc (by decide) rfl (by omega) (by omega)) (by omega) (Nat.zero_le _) (Nat.zero_le _) (Nat.le_of_ble_eq_true rfl) (fun r69 V69 h69 => ?_)
                obtain ⟨⟨y69, rfl, hf69⟩, hE69⟩ := h69
                have hE69 := hE69.symm
                subst hE69
                · refine Jz_iconst (-1) dX6_reach_72 (by decide) (fun y72 he72 => ?_)
                  have hy69 : y69.toInt = -1 := by rw [← hf69]; exact hp5
                  refine Jz_icmp_ne (tgt := 102) jEq.rf he72 dX6_reach_73 (by decide) (fun c73 => (show False by omega).elim) (fun c73 => ?_)
                  refine J_aload_n dX6_reach_76 rfl ?_
                  refine J_get jf_X6_190 dX6_reach_77 ht h9 ?_
                  refine J_iload_n dX6_reach_80 rfl ?_
                  have hjb : 3 ≤ jdir x1.toInt ∧ jdir x1.toInt ≤ 6 := by have q := jdir_cases x1.toInt; omega
                  have hRX : i4n32.toInt.toNat = (jdir x1.toInt).toNat ^ x2.toInt.toNat := by have q := jpw_nat (d := jdir x1.toInt) (by omega) x2.toInt.toNat; omega
                  have hjp1 := jpw_pos (show 1 ≤ jdir x1.toInt by omega) i5n32.toInt.toNat
                  refine Jc_new jn_X6_193 dX6_reach_81 (by decide) (by decide) hW (fun q81 V81 hn81 hQ81 hk81 hW hx81 => ?_)
                  have hkr := hkr.trans he.1 (jrt.of hx81 (jdis_of rfl))
                  have he := he.trans (hx81.sub (jsub_of rfl))
                  have hj9 := hj9.trans (jle9.of hx81 (jnot_of rfl))
                  have hfk := hfk.keep hx81 (jdis_of rfl)
                  have ha0 := ha0.mono hx81.1
                  have htlk := htlk.mono hx81.1
                  have hbt := hbt.mono hx81.1
                  have hbrc := hbrc.mono hx81.1
                  have hb_tr := hb_tr.mono hx81.1
                  have hb_sT := hb_sT.mono hx81.1
                  have hb_xxT := hb_xxT.mono hx81.1
                  have hb_yyT := hb_yyT.mono hx81.1
                  have hb_zzT := hb_zzT.mono hx81.1
                  have hx := hx81.2 _ _ hx (jnot_of rfl)
                  have hKx := hKx.mono hx81.1
                  have ht := hx81.2 _ _ ht (jnot_of rfl)
                  have hKt := hKt.mono hx81.1
                  have hO_tr := hx81.2 _ _ hO_tr (jnot_of rfl)
                  have hK_tr := hK_tr.mono hx81.1
                  have hrc := hx81.2 _ _ hrc (jnot_of rfl)
                  have ha_ST := hx81.2 _ _ ha_ST (jnot_of rfl)
                  have ha_XT := hx81.2 _ _ ha_XT (jnot_of rfl)
                  have ha_YT := hx81.2 _ _ ha_YT (jnot_of rfl)
                  have ha_ZT := hx81.2 _ _ ha_ZT (jnot_of rfl)
                  refine J_dup dX6_reach_84 rfl ?_
                  refine J_iload_n dX6_reach_85 rfl ?_
                  refine J_iload_n dX6_reach_86 rfl ?_
                  refine J_iload dX6_reach_87 rfl ?_
                  refine J_callI3 moX5_init rfl rfl jw_ml_X6_195 jw_im_X5_init dX6_reach_89 (w_X5_init_z (d - 1) _ _ _ _ _ (by omega) hW hQ81) (by omega) (by decide) (by decide) (Nat.le_of_ble_eq_true rfl) (fun r89 V89 h89 => ?_)
                  obtain ⟨rfl, hW, hx89, hj899, hxc89⟩ := h89
                  have hkr := hkr.trans he.1 (jrt.of hx89 (jdis_of rfl))
                  have he := he.trans (hx89.sub (jsub_of rfl))
                  have hj9 := hj9.trans (jle9.of hx89 (jnot_of rfl))
                  have hfk := hfk.keep hx89 (jdis_of rfl)
                  have ha0 := ha0.mono hx89.1
                  have htlk := htlk.mono hx89.1
                  have hbt := hbt.mono hx89.1
                  have hbrc := hbrc.mono hx89.1
                  have hb_tr := hb_tr.mono hx89.1
                  have hb_sT := hb_sT.mono hx89.1
                  have hb_xxT := hb_xxT.mono hx89.1
                  have hb_yyT := hb_yyT.mono hx89.1
                  have hb_zzT := hb_zzT.mono hx89.1
                  have hx := hx89.2 _ _ hx (jnot_of rfl)
                  have hKx := hKx.mono hx89.1
                  have ht := hx89.2 _ _ ht (jnot_of rfl)
                  have hKt := hKt.mono hx89.1
                  have hO_tr := hx89.2 _ _ hO_tr (jnot_of rfl)
                  have hK_tr := hK_tr.mono hx89.1
                  have hrc := hx89.2 _ _ hrc (jnot_of rfl)
                  have ha_ST := hx89.2 _ _ ha_ST (jnot_of rfl)
                  have ha_XT := hx89.2 _ _ ha_XT (jnot_of rfl)
                  have ha_YT := hx89.2 _ _ ha_YT (jnot_of rfl)
                  have ha_ZT := hx89.2 _ _ ha_ZT (jnot_of rfl)
                  obtain ⟨st9, qu9, dg9, b9, sn9, qz9, -, ⟨eb9, es9, eq9⟩, ⟨m0, m1, m2, m6⟩, ⟨r3, r4, r5⟩, ⟨s3, s4, s5⟩, -⟩ := jtu.tell hxc89 (by omega) (by omega)
                  obtain ⟨fsq, hOq, hKq⟩ := WT_obj hW id hj899
                  have hq0 := m0.get hOq
                  have hq1 := m1.get hOq
                  have hq2 := m2.get hOq
                  have hq6 := m6.get hOq
                  have hq3 := r3.get hOq
                  have hq4 := r4.get hOq
                  have hq5 := r5.get hOq
                  have hbq3 : jis V89 (.inl 3) st9 := ⟨_, s3, rfl⟩
                  have hbq4 : jis V89 (.inl 10) qu9 := ⟨_, s4, rfl⟩
                  have hbq5 : jis V89 (.inl 11) dg9 := ⟨_, s5, rfl⟩
                  have hRD : i4n32.toInt.toNat = (jdir x1.toInt).toNat ^ sn9.toInt.toNat := by rw [es9]; exact hRX
                  refine J_aload_n dX6_reach_92 rfl ?_
                  refine J_get jf_X6_22 dX6_reach_93 hx hF_tr ?_
                  refine Jw_callV1 (q9 := (RX5, TX5, 7)) moX5_countReached jw_ml_X6_198 jw_im_X5_countReached jw_se_X5_countReached hj899 rfl rfl dX6_reach_96 (w_X5_countReached_z (d - 1) _ q81 tr x1 sn9 b9 qz9 MT nT st9 qu9 dg9 sT xxT yyT zzT i4n32.toInt.toNat (fun _ => 0) (fun _ => 0) (fun _ => 0) ST XT YT ZT (by omega) hW  hj899 hb_tr ⟨_, hOq, hq0⟩ ⟨_, hOq, hq1⟩ ⟨_, hOq, hq2⟩ ⟨_, hOq, hq6⟩ ⟨_, hO_tr, hF_MT⟩ ⟨_, hO_tr, hF_nT⟩ ⟨_, hOq, hq3⟩ ⟨_, hOq, hq4⟩ ⟨_, hOq, hq5⟩ ⟨_, hO_tr, hF_sT⟩ ⟨_, hO_tr, hF_xxT⟩ ⟨_, hO_tr, hF_yyT⟩ ⟨_, hO_tr, hF_zzT⟩ s3 s4 s5 ha_ST ha_XT ha_YT ha_ZT (by omega) (by omega) (by omega) eb9 (by omega) (by omega) (by omega) hRD (by omega) rfl hz0 hz1 hz2) (by omega) (Nat.zero_le _) (Nat.zero_le _) (Nat.le_of_ble_eq_true rfl) (fun r96 V96 h96 => ?_)
                  obtain ⟨h96, hX96_0⟩ := h96
                  obtain ⟨hW, hx96, hr96⟩ := h96
                  have hkr := hkr.trans he.1 (jrt.call hx hF_tr hX96_0)
                  have he := he.trans (hx96.sub (jsub_of rfl))
                  have hj9 := hj9.trans (jle9.of hx96 (jnot_of rfl))
                  have hfk := hfk.keep hx96 (jdis_of rfl)
                  have ha0 := ha0.mono hx96.1
                  have htlk := htlk.mono hx96.1
                  have hbt := hbt.mono hx96.1
                  have hbrc := hbrc.mono hx96.1
                  have hb_tr := hb_tr.mono hx96.1
                  have hb_sT := hb_sT.mono hx96.1
                  have hb_xxT := hb_xxT.mono hx96.1
                  have hb_yyT := hb_yyT.mono hx96.1
                  have hb_zzT := hb_zzT.mono hx96.1
                  have hbq3 := hbq3.mono hx96.1
                  have hbq4 := hbq4.mono hx96.1
                  have hbq5 := hbq5.mono hx96.1
                  have hx := hx96.2 _ _ hx (jnot_of rfl)
                  have hKx := hKx.mono hx96.1
                  have ht := hx96.2 _ _ ht (jnot_of rfl)
                  have hKt := hKt.mono hx96.1
                  obtain ⟨fs96tr, hOfs96tr, hRfs96tr⟩ := hx96.1.keep hO_tr
                  have hKfs96tr : jokO _ (jFs 1) fs96tr := hW _ _ id hOfs96tr
                  have hFfs96tr_1 := hRfs96tr _ _ hF_sT
                  have hFfs96tr_2 := hRfs96tr _ _ hF_xxT
                  have hFfs96tr_3 := hRfs96tr _ _ hF_yyT
                  have hFfs96tr_4 := hRfs96tr _ _ hF_zzT
                  have hrc := hx96.2 _ _ hrc (jnot_of rfl)
                  obtain ⟨y96, rfl, hl96, hh96, hP96_0⟩ := hr96
                  clear hl96 hh96
                  have hval : y96.toInt = ((jre (j : Int) x2.toInt.toNat : Nat) : Int) := by
                    rw [hP96_0, es9, hRX, hgj]
                    rfl
                  refine J_callS3 moX6_put jw_ml_X6_183 jw_st_X6_put dX6_reach_99 (w_X6_put_y (d - 1) _ _ _ _ hW hrc (by omega) (by omega) (by omega)) (by omega) (Nat.zero_le _) (Nat.zero_le _) (Nat.le_of_ble_eq_true rfl) (fun r99 V99 h99 => ?_)
                  obtain ⟨rfl, hW, hx99, hj99, hB99, G99, hA99, hp99, hc99, ho99⟩ := h99
                  obtain ⟨hN99, hv99⟩ := WT_rngI (r := (-2147483648, 2147483647)) hW id rfl hA99
                  clear hN99
                  have hkr := hkr.trans he.1 (jrt.of hx99 (jdis_of rfl))
                  have he := he.trans (hx99.sub (jsub_of rfl))
                  have hj9 := hj9.trans hj99
                  have ha0 := ha0.mono hx99.1
                  have htlk := htlk.mono hx99.1
                  have hbt := hbt.mono hx99.1
                  have hbrc := hbrc.mono hx99.1
                  have hb_tr := hb_tr.mono hx99.1
                  have hb_sT := hb_sT.mono hx99.1
                  have hb_xxT := hb_xxT.mono hx99.1
                  have hb_yyT := hb_yyT.mono hx99.1
                  have hb_zzT := hb_zzT.mono hx99.1
                  have hx := hx99.2 _ _ hx (jnot_of rfl)
                  have hKx := hKx.mono hx99.1
                  have ht := hx99.2 _ _ ht (jnot_of rfl)
                  have hKt := hKt.mono hx99.1
                  have hOfs96tr := hx99.2 _ _ hOfs96tr (jnot_of rfl)
                  have hKfs96tr := hKfs96tr.mono hx99.1
                  have hfk := hfk.put hx99 hB99
                  · refine J_aload_n dX6_reach_102 rfl ?_
                    refine J_get jf_X6_190 dX6_reach_103 ht h9 ?_
                    refine J_iload_n dX6_reach_106 rfl ?_
                    refine J_callS2 moX6_cell jw_ml_X6_110 jw_st_X6_cell dX6_reach_107 (w_X6_cell_x (d - 1) _ _ _ hA99 (by decide) rfl (by omega) (by omega)) (by omega) (Nat.zero_le _) (Nat.zero_le _) (Nat.le_of_ble_eq_true rfl) (fun r107 V107 h107 => ?_)
                    obtain ⟨⟨y107, rfl, hf107⟩, hE107⟩ := h107
                    have hE107 := hE107.symm
                    subst hE107
                    · exact J_ret (r := some (.int _)) dX6_reach_110 ⟨rfl, _, rfl, rfl⟩ (⟨⟨hW, he, ⟨_, rfl, (j_rng _).1, (j_rng _).2, (by rw [← hf107, hp99]; exact hval)⟩⟩, hj9, ⟨G99, hA99, hc99 hp5, (by rw [hp99]; exact hval), ho99⟩, hfk, hkr⟩)
              · exact False.elim (by omega)
            · refine J_iload dX6_reach_38 rfl ?_
              refine J_iload_n dX6_reach_40 rfl ?_
              refine J_callS1 moX0_directions jw_ml_X6_187 jw_st_X0_directions dX6_reach_41 (w_X0_directions_z (d - 1) _ x1 (by omega)   ) (by omega) (Nat.zero_le _) (Nat.zero_le _) (Nat.le_of_ble_eq_true rfl) (fun r41 V41 h41 => ?_)
              obtain ⟨⟨y41, rfl, hl41, hh41, hP41_0⟩, hE41⟩ := h41
              have hE41 := hE41.symm
              subst hE41
              have hz41 : jEq y41.toInt (jdir (x1.toInt)) := hP41_0
              simp only [hP41_0] at hl41 hh41
              clear hP41_0
              have hjd := jdir_cases x1.toInt
              have hq1 : i4n32.toInt * jdir x1.toInt = jpw (jdir x1.toInt) (i5n32.toInt.toNat + 1) := by rw [hpw, Int.mul_comm]; rfl
              have hq2 := jpw_le6 (d := jdir x1.toInt) (by omega) (by omega) (n := i5n32.toInt.toNat + 1) (by omega)
              have hq3 := jpw_pos (d := jdir x1.toInt) (by omega) (i5n32.toInt.toNat + 1)
              refine Jz_imul jEq.rf hz41 dX6_reach_44 (by omega) (by omega) (fun y44 he44 => ?_)
              refine J_istore dX6_reach_45 rfl (by decide) ?_
              refine Jz_iinc 1 dX6_reach_47 rfl rfl (by decide) jEq.rf (by decide) (by omega) (by omega) (fun y47 he47 => ?_)
              refine J_goto (tgt := 32) dX6_reach_50 (by decide) ?_
              refine J.mask [true, true, true, true, true, true] ?_
              exact ih32  y44 y47  (by (try simp only [he44.eq, he47.eq, true_and, and_true]) <;> omega) (by rw [he44.eq, Int.mul_comm, hpw, he47.eq, show (i5n32.toInt + 1).toNat = i5n32.toInt.toNat + 1 by omega]; rfl) (by (try simp only [he44.eq, he47.eq, true_and, and_true]) <;> omega)
        refine J.mask [true, true, true, true, true, true] ?_
        exact L32 _  y26 y29    (by (try simp only [he26.eq, he29.eq, true_and, and_true]) <;> omega) (by rw [he26.eq, he29.eq]; rfl) (Nat.lt_succ_self _)
      · exact False.elim (by omega)
set_option maxRecDepth 100000 in
set_option maxHeartbeats 8000000 in
theorem w_X6_reach_zn {tS : jTS} (d : Nat) (V0 : jH) (a0 : Nat) (x1 : Int32) (x2 : Int32) (fs : List Value) (tl : Nat) (f : Nat → Option Nat) (j : Nat) (A : Nat → jad) (tr : Nat) (MT : Int32) (gT : Int32) (nT : Int32) (sT : Nat) (xxT : Nat) (yyT : Nat) (zzT : Nat) (ST : Nat → Int32) (XT : Nat → Int32) (YT : Nat → Int32) (ZT : Nat → Int32) (hd : 14 ≤ d) (hW : WT V0) (ha0 : jis V0 (.inr 4) a0) (hx : V0 a0 = some (.inr (4, fs))) (h5 : fs[5]? = some (.ref tl)) (htl : V0 tl = some (.inl (5, 4, .inr (.inr (.inr (.inr f)))))) (hg : x1 = nI j) (hj : j < 4) (hb1 : ¬ x1 < 0) (hb2 : ¬ Int32.ofNat 4 ≤ x1) (hb3 : ¬ x2 < 1) (hb4 : x2 ≤ 20) (hf : f j = none) (hty4 : ∀ j : Nat, j < 4 → f j = none ∨ ∃ t : Nat, f j = some t ∧ jty V0 t (A j) (j : Int)) (hA5 : ∀ i j : Nat, i < 4 → j < 4 → i ≠ j → f i ≠ none → f j ≠ none → jsp (A i) (A j)) (hf_MT : jfI V0 tr 1 0 MT) (hf_gT : jfI V0 tr 1 5 gT) (hf_nT : jfI V0 tr 1 6 nT) (hr_sT : jfR V0 tr 1 1 sT) (hr_xxT : jfR V0 tr 1 2 xxT) (hr_yyT : jfR V0 tr 1 3 yyT) (hr_zzT : jfR V0 tr 1 4 zzT) (ha_ST : V0 sT = some (.inl (6, 120, .inl ST))) (ha_XT : V0 xxT = some (.inl (34, 121, .inl XT))) (ha_YT : V0 yyT = some (.inl (35, 121, .inl YT))) (ha_ZT : V0 zzT = some (.inl (36, 121, .inl ZT))) (hm_tr : MT.toInt = 120) (hn_tr : nT.toInt ≤ 120) (hr_tr : jfR V0 a0 4 2 tr) (htf0 : jTF V0 a0) (hp0 : 1 ≤ x2.toInt) (hp1 : x2.toInt ≤ 20) (hp2 : (XT 0).toInt = 0) (hp3 : (YT 0).toInt = 0) (hp4 : (ZT 0).toInt = 0) : jTot tS mX6_reach d [.ref a0, .int x1, .int x2] V0 12 35751 (fun r V => (jPost [.inl 5, .inr 2, .inr 3, .inr 1, .inl 6, .inl 34, .inl 35, .inl 36, .inl 3, .inl 10, .inl 11, .inl 9] V0 (fun r _ => ∃ y : Int32, r = some (.int y) ∧ ((-2147483648) ≤ y.toInt) ∧ (y.toInt ≤ 2147483647) ∧ (((x1.toInt = 2 ∨ 6 < x2.toInt) ∧ y.toInt = -2) ∨ (¬ x1.toInt = 2 ∧ x2.toInt ≤ 6 ∧ ((10000 < jpw (jdir x1.toInt) x2.toInt.toNat ∧ y.toInt = -5) ∨ (jpw (jdir x1.toInt) x2.toInt.toNat ≤ 10000 ∧ y.toInt = ((jre (j : Int) x2.toInt.toNat : Nat) : Int))))))) r V ∧ jle9 V0 V ∧ (∃ f2 : Nat → Option Nat, V tl = some (.inl (5, 4, .inr (.inr (.inr (.inr f2))))) ∧ (∀ i, i ≠ j → f2 i = f i) ∧ ∃ t, f2 j = some t) ∧ jTL V a0 ∧ jTF V a0 ∧ jrt a0 V0 V) := by
  refine jTot.of_J [some (.ref a0), some (.int x1), some (.int x2), none, none, none] moX6_reach (Nat.le_of_ble_eq_true rfl) rfl ?_
  have hrx1 := j_rng x1
  have hrx2 := j_rng x2
  have he : jeff [.inl 5, .inr 2, .inr 3, .inr 1, .inl 6, .inl 34, .inl 35, .inl 36, .inl 3, .inl 10, .inl 11, .inl 9] V0 V0 := jeff.refl _ _
  have hkr : jrt a0 V0 V0 := jrt.rf
  have hj9 : jle9 V0 V0 := jle9.rf
  have hKx : jokO V0 (jFs 4) fs := hW _ _ id hx
  have htlk : jis V0 (.inl 5) tl := ⟨_, htl, rfl⟩
  have hN4 : (4 : Nat) < 2 ^ 31 := by decide
  have hvt : ∀ (j b : Nat), j < 4 → f j = some b → jis V0 (.inr 2) b := by
    obtain ⟨n9, f9, h91, h92, h93, h94⟩ := WT_arrR hW id rfl htlk
    cases htl.symm.trans h91
    exact h94
  have hjj : ∀ j2 : Nat, x1 = nI j2 → j2 < 4 → j2 = j := fun j2 h1 h2 => by
    have h3 : x1.toNatClampNeg = j2 := by rw [h1]; exact nI_clamp (by omega)
    have h4 : x1.toNatClampNeg = j := by rw [hg]; exact nI_clamp (by omega)
    omega
  clear hN4
  have hx0 := hx
  have h50 := h5
  have htl0 := htl
  have hgj : x1.toInt = (j : Int) := by rw [hg]; exact nI_toInt (by omega)
  have hb_tr : jis V0 (.inr 1) tr := by obtain ⟨q1, q2, q3⟩ := hf_MT; exact ⟨_, q2, rfl⟩
  obtain ⟨fs_tr, hO_tr, hK_tr⟩ := WT_obj hW id hb_tr
  have hF_MT := hf_MT.get hO_tr
  have hrMT : 0 ≤ MT.toInt ∧ MT.toInt ≤ 120 := jok_rngI hK_tr rfl hF_MT
  have hF_gT := hf_gT.get hO_tr
  have hrgT : (-2147483648) ≤ gT.toInt ∧ gT.toInt ≤ 2147483647 := jok_rngI hK_tr rfl hF_gT
  have hF_nT := hf_nT.get hO_tr
  have hrnT : 0 ≤ nT.toInt ∧ nT.toInt ≤ 120 := jok_rngI hK_tr rfl hF_nT
  have hF_sT := hr_sT.get hO_tr
  have hb_sT : jis V0 (.inl 6) sT := ⟨_, ha_ST, rfl⟩
  obtain ⟨hN_ST, hv_ST⟩ := WT_rngI (r := (-2147483648, 2147483647)) hW id rfl ha_ST
  clear hN_ST
  have hF_xxT := hr_xxT.get hO_tr
  have hb_xxT : jis V0 (.inl 34) xxT := ⟨_, ha_XT, rfl⟩
  obtain ⟨hN_XT, hv_XT⟩ := WT_rngI (r := (-2147483648, 2147483647)) hW id rfl ha_XT
  clear hN_XT
  have hF_yyT := hr_yyT.get hO_tr
  have hb_yyT : jis V0 (.inl 35) yyT := ⟨_, ha_YT, rfl⟩
  obtain ⟨hN_YT, hv_YT⟩ := WT_rngI (r := (-2147483648, 2147483647)) hW id rfl ha_YT
  clear hN_YT
  have hF_zzT := hr_zzT.get hO_tr
  have hb_zzT : jis V0 (.inl 36) zzT := ⟨_, ha_ZT, rfl⟩
  obtain ⟨hN_ZT, hv_ZT⟩ := WT_rngI (r := (-2147483648, 2147483647)) hW id rfl ha_ZT
  clear hN_ZT
  have hF_tr := hr_tr.get hx
  have hz0 := hp2
  have hz1 := hp3
  have hz2 := hp4
  refine J_aload_n dX6_reach_0 rfl ?_
  refine J_iload_n dX6_reach_1 rfl ?_
  refine J_iload_n dX6_reach_2 rfl ?_
  refine Jz_iconst 1 dX6_reach_3 (by decide) (fun y3 he3 => ?_)
  refine Jw_callV3 (q9 := (RX6, TX6, 7)) moX6_tallyFor jw_ml_X6_149 jw_im_X6_tallyFor jw_se_X6_tallyFor ha0 rfl rfl dX6_reach_4 (w_X6_tallyFor_newz (d - 1) _ _ _ _ _ fs tl f j (by omega) hW ha0 hx h5 htl hg hj hf hb1 hb2 (by rw [(jI_inj.mp (he3.eq.trans rfl) : y3 = 1)]; exact hb3) hb4) (by omega) (by omega) (by omega) (Nat.le_of_ble_eq_true rfl) (fun r4 V4 h4 => ?_)
  obtain ⟨t, rfl, hW, hx4, hbt, htl2, hjm⟩ := h4
  have hkr := hkr.trans he.1 (jrt.of hx4 (jdis_of rfl))
  have he := he.trans (hx4.sub (jsub_of rfl))
  have hj9 := hj9.trans (jle9.of hx4 (jnot_of rfl))
  have ha0 := ha0.mono hx4.1
  have htlk := htlk.mono hx4.1
  have hb_tr := hb_tr.mono hx4.1
  have hb_sT := hb_sT.mono hx4.1
  have hb_xxT := hb_xxT.mono hx4.1
  have hb_yyT := hb_yyT.mono hx4.1
  have hb_zzT := hb_zzT.mono hx4.1
  have hx := hx4.2 _ _ hx (jnot_of rfl)
  have hKx := hKx.mono hx4.1
  have hO_tr := hx4.2 _ _ hO_tr (jnot_of rfl)
  have hK_tr := hK_tr.mono hx4.1
  have ha_ST := hx4.2 _ _ ha_ST (jnot_of rfl)
  have ha_XT := hx4.2 _ _ ha_XT (jnot_of rfl)
  have ha_YT := hx4.2 _ _ ha_YT (jnot_of rfl)
  have ha_ZT := hx4.2 _ _ ha_ZT (jnot_of rfl)
  have htlk : jis V4 (.inl 5) tl := ⟨_, htl2, rfl⟩
  obtain ⟨P, hnew, hty, hnf, hfa⟩ := hjm
  have hjt : jTL V4 a0 := jTL.fresh hx0 h50 hty4 hA5 he.1 htl2 hj hf (va_up_self _ _ _) (fun i hi => va_up_ne _ _ hi) hty hnew (jTL.frs ⟨_, htl0, rfl⟩ hnew hfa jfp.rf)
  have htf1 : jTF V4 a0 := jTF.fresh htf0 hx0 h50 htl0 hx4.1 htl2 hf (va_up_self _ _ _) (fun i hi => va_up_ne _ _ hi) hnf hfa
  obtain ⟨rn, RN, q9, d9, hrn, hup⟩ := jTF.at2 htf1 hx h5 htl2 hj (va_up_self _ _ _)
  obtain ⟨ts, hT, hKt⟩ := WT_obj hW id hbt
  have hF9 := q9.get hT
  have hbrn : jis V4 (.inl 9) rn := ⟨_, d9, rfl⟩
  have hfk : jfk rn V4 V4 := jfk.rf
  · refine J_astore_n dX6_reach_7 rfl (by decide) ?_
    refine J_aload_n dX6_reach_8 rfl ?_
    refine J_ifnull dX6_reach_9 ?_
    refine J_iload_n dX6_reach_12 rfl ?_
    refine Jz_iconst 2 dX6_reach_13 (by decide) (fun y13 he13 => ?_)
    refine Jz_icmp_eq (tgt := 23) jEq.rf he13 dX6_reach_14 (by decide) (fun c14 => ?_) (fun c14 => ?_)
    · refine Jz_bipush (-2) dX6_reach_23 (by decide) (fun y23 he23 => ?_)
      exact J_ret (r := some (.int _)) dX6_reach_25 ⟨rfl, _, rfl, rfl⟩ (⟨⟨hW, he, ⟨_, rfl, (j_rng _).1, (j_rng _).2, (Or.inl ⟨by omega, he23.eq⟩)⟩⟩, hj9, ⟨_, htl2, fun i hi => va_up_ne _ _ hi, _, va_up_self _ _ _⟩, hjt, htf1, hkr⟩)
    · refine J_iload_n dX6_reach_17 rfl ?_
      refine Jz_bipush 6 dX6_reach_18 (by decide) (fun y18 he18 => ?_)
      refine Jz_icmp_le (tgt := 26) jEq.rf he18 dX6_reach_20 (by decide) (fun c20 => ?_) (fun c20 => ?_)
      · refine Jz_iconst 1 dX6_reach_26 (by decide) (fun y26 he26 => ?_)
        refine J_istore dX6_reach_27 rfl (by decide) ?_
        refine Jz_iconst 0 dX6_reach_29 (by decide) (fun y29 he29 => ?_)
        refine J_istore dX6_reach_30 rfl (by decide) ?_
        have L32 : ∀ (N : Nat) (i4n32 : Int32) (i5n32 : Int32), (0 ≤ i5n32.toInt ∧ i5n32.toInt ≤ x2.toInt) → (i4n32.toInt = jpw (jdir x1.toInt) i5n32.toInt.toNat) → (300 - i5n32.toInt).toNat < N → J tS mX6_reach d 32 [some (.ref a0), some (.int x1), some (.int x2), some (.ref t), some (.int i4n32), some (.int i5n32)] [] V4 4 20013 (fun r V => (jPost [.inl 5, .inr 2, .inr 3, .inr 1, .inl 6, .inl 34, .inl 35, .inl 36, .inl 3, .inl 10, .inl 11, .inl 9] V0 (fun r _ => ∃ y : Int32, r = some (.int y) ∧ ((-2147483648) ≤ y.toInt) ∧ (y.toInt ≤ 2147483647) ∧ (((x1.toInt = 2 ∨ 6 < x2.toInt) ∧ y.toInt = -2) ∨ (¬ x1.toInt = 2 ∧ x2.toInt ≤ 6 ∧ ((10000 < jpw (jdir x1.toInt) x2.toInt.toNat ∧ y.toInt = -5) ∨ (jpw (jdir x1.toInt) x2.toInt.toNat ≤ 10000 ∧ y.toInt = ((jre (j : Int) x2.toInt.toNat : Nat) : Int))))))) r V ∧ jle9 V0 V ∧ (∃ f2 : Nat → Option Nat, V tl = some (.inl (5, 4, .inr (.inr (.inr (.inr f2))))) ∧ (∀ i, i ≠ j → f2 i = f i) ∧ ∃ t, f2 j = some t) ∧ jTL V a0 ∧ jTF V a0 ∧ jrt a0 V0 V) := by
          intro N
          induction N with
          | zero => intro i4n32 i5n32  hi5 hpw hm; exact absurd hm (Nat.not_lt_zero _)
          | succ N ih =>
            intro i4n32 i5n32  hi5 hpw hm
            have ih32 := ih
            have hri5 := j_rng i5n32
            refine J_iload dX6_reach_32 rfl ?_
            refine J_iload_n dX6_reach_34 rfl ?_
            refine Jz_icmp_ge (tgt := 53) jEq.rf jEq.rf dX6_reach_35 (by decide) (fun c35 => ?_) (fun c35 => ?_)
            · have hall : i4n32.toInt = jpw (jdir x1.toInt) x2.toInt.toNat := by rw [hpw, show i5n32.toInt.toNat = x2.toInt.toNat by omega]
              refine J_iload dX6_reach_53 rfl ?_
              refine Jz_sipush 10000 dX6_reach_55 (by decide) (fun y55 he55 => ?_)
              refine Jz_icmp_le (tgt := 64) jEq.rf he55 dX6_reach_58 (by decide) (fun c58 => ?_) (fun c58 => ?_)
              · refine J_aload_n dX6_reach_64 rfl ?_
                refine J_get jf_X6_190 dX6_reach_65 hT hF9 ?_
                refine J_iload_n dX6_reach_68 rfl ?_
                refine J_callS2 moX6_cell jw_ml_X6_110 jw_st_X6_cell dX6_reach_69 (w_X6_cell_x (d - 1) _ _ _ d9 (by decide) rfl (by omega) (by omega)) (by omega) (Nat.zero_le _) (Nat.zero_le _) (Nat.le_of_ble_eq_true rfl) (fun r69 V69 h69 => ?_)
                obtain ⟨⟨y69, rfl, hf69⟩, hE69⟩ := h69
                have hE69 := hE69.symm
                subst hE69
                · refine Jz_iconst (-1) dX6_reach_72 (by decide) (fun y72 he72 => ?_)
                  refine Jz_icmp_ne (tgt := 102) jEq.rf he72 dX6_reach_73 (by decide) (fun c73 => ?_) (fun c73 => ?_)
                  · refine J_aload_n dX6_reach_102 rfl ?_
                    refine J_get jf_X6_190 dX6_reach_103 hT hF9 ?_
                    refine J_iload_n dX6_reach_106 rfl ?_
                    refine J_callS2 moX6_cell jw_ml_X6_110 jw_st_X6_cell dX6_reach_107 (w_X6_cell_x (d - 1) _ _ _ d9 (by decide) rfl (by omega) (by omega)) (by omega) (Nat.zero_le _) (Nat.zero_le _) (Nat.le_of_ble_eq_true rfl) (fun r107 V107 h107 => ?_)
                    obtain ⟨⟨y107, rfl, hf107⟩, hE107⟩ := h107
                    have hE107 := hE107.symm
                    subst hE107
                    · exact J_ret (r := some (.int _)) dX6_reach_110 ⟨rfl, _, rfl, rfl⟩ (⟨⟨hW, he, ⟨_, rfl, (j_rng _).1, (j_rng _).2, (Or.inr ⟨by omega, by omega, Or.inr ⟨by omega, by rw [← hf107]; exact (hrn x2.toInt.toNat (by omega)).elim (fun q => absurd q (by rw [hf69]; omega)) id⟩⟩)⟩⟩, hj9, ⟨_, htl2, fun i hi => va_up_ne _ _ hi, _, va_up_self _ _ _⟩, hjt, htf1, hkr⟩)
                  · refine J_aload_n dX6_reach_76 rfl ?_
                    refine J_get jf_X6_190 dX6_reach_77 hT hF9 ?_
                    refine J_iload_n dX6_reach_80 rfl ?_
                    have hjb : 3 ≤ jdir x1.toInt ∧ jdir x1.toInt ≤ 6 := by have q := jdir_cases x1.toInt; omega
                    have hRX : i4n32.toInt.toNat = (jdir x1.toInt).toNat ^ x2.toInt.toNat := by have q := jpw_nat (d := jdir x1.toInt) (by omega) x2.toInt.toNat; omega
                    have hjp1 := jpw_pos (show 1 ≤ jdir x1.toInt by omega) i5n32.toInt.toNat
                    refine Jc_new jn_X6_193 dX6_reach_81 (by decide) (by decide) hW (fun q81 V81 hn81 hQ81 hk81 hW hx81 => ?_)
                    have hkr := hkr.trans he.1 (jrt.of hx81 (jdis_of rfl))
                    have he := he.trans (hx81.sub (jsub_of rfl))
                    have hj9 := hj9.trans (jle9.of hx81 (jnot_of rfl))
                    have hjt := hjt.keep hx81 (jdis_of rfl)
                    have hfk := hfk.keep hx81 (jdis_of rfl)
                    have ha0 := ha0.mono hx81.1
                    have htlk := htlk.mono hx81.1
                    have hb_tr := hb_tr.mono hx81.1
                    have hb_sT := hb_sT.mono hx81.1
                    have hb_xxT := hb_xxT.mono hx81.1
                    have hb_yyT := hb_yyT.mono hx81.1
                    have hb_zzT := hb_zzT.mono hx81.1
                    have hbt := hbt.mono hx81.1
                    have hbrn := hbrn.mono hx81.1
                    have hx := hx81.2 _ _ hx (jnot_of rfl)
                    have hKx := hKx.mono hx81.1
                    have hO_tr := hx81.2 _ _ hO_tr (jnot_of rfl)
                    have hK_tr := hK_tr.mono hx81.1
                    have hT := hx81.2 _ _ hT (jnot_of rfl)
                    have hKt := hKt.mono hx81.1
                    have ha_ST := hx81.2 _ _ ha_ST (jnot_of rfl)
                    have ha_XT := hx81.2 _ _ ha_XT (jnot_of rfl)
                    have ha_YT := hx81.2 _ _ ha_YT (jnot_of rfl)
                    have ha_ZT := hx81.2 _ _ ha_ZT (jnot_of rfl)
                    have htl2 := hx81.2 _ _ htl2 (jnot_of rfl)
                    have d9 := hx81.2 _ _ d9 (jnot_of rfl)
                    refine J_dup dX6_reach_84 rfl ?_
                    refine J_iload_n dX6_reach_85 rfl ?_
                    refine J_iload_n dX6_reach_86 rfl ?_
                    refine J_iload dX6_reach_87 rfl ?_
                    refine J_callI3 moX5_init rfl rfl jw_ml_X6_195 jw_im_X5_init dX6_reach_89 (w_X5_init_z (d - 1) _ _ _ _ _ (by omega) hW hQ81) (by omega) (by decide) (by decide) (Nat.le_of_ble_eq_true rfl) (fun r89 V89 h89 => ?_)
                    obtain ⟨rfl, hW, hx89, hj899, hxc89⟩ := h89
                    have hkr := hkr.trans he.1 (jrt.of hx89 (jdis_of rfl))
                    have he := he.trans (hx89.sub (jsub_of rfl))
                    have hj9 := hj9.trans (jle9.of hx89 (jnot_of rfl))
                    have hjt := hjt.keep hx89 (jdis_of rfl)
                    have hfk := hfk.keep hx89 (jdis_of rfl)
                    have ha0 := ha0.mono hx89.1
                    have htlk := htlk.mono hx89.1
                    have hb_tr := hb_tr.mono hx89.1
                    have hb_sT := hb_sT.mono hx89.1
                    have hb_xxT := hb_xxT.mono hx89.1
                    have hb_yyT := hb_yyT.mono hx89.1
                    have hb_zzT := hb_zzT.mono hx89.1
                    have hbt := hbt.mono hx89.1
                    have hbrn := hbrn.mono hx89.1
                    have hx := hx89.2 _ _ hx (jnot_of rfl)
                    have hKx := hKx.mono hx89.1
                    have hO_tr := hx89.2 _ _ hO_tr (jnot_of rfl)
                    have hK_tr := hK_tr.mono hx89.1
                    have hT := hx89.2 _ _ hT (jnot_of rfl)
                    have hKt := hKt.mono hx89.1
                    have ha_ST := hx89.2 _ _ ha_ST (jnot_of rfl)
                    have ha_XT := hx89.2 _ _ ha_XT (jnot_of rfl)
                    have ha_YT := hx89.2 _ _ ha_YT (jnot_of rfl)
                    have ha_ZT := hx89.2 _ _ ha_ZT (jnot_of rfl)
                    have htl2 := hx89.2 _ _ htl2 (jnot_of rfl)
                    have d9 := hx89.2 _ _ d9 (jnot_of rfl)
                    obtain ⟨st9, qu9, dg9, b9, sn9, qz9, -, ⟨eb9, es9, eq9⟩, ⟨m0, m1, m2, m6⟩, ⟨r3, r4, r5⟩, ⟨s3, s4, s5⟩, -⟩ := jtu.tell hxc89 (by omega) (by omega)
                    obtain ⟨fsq, hOq, hKq⟩ := WT_obj hW id hj899
                    have hq0 := m0.get hOq
                    have hq1 := m1.get hOq
                    have hq2 := m2.get hOq
                    have hq6 := m6.get hOq
                    have hq3 := r3.get hOq
                    have hq4 := r4.get hOq
                    have hq5 := r5.get hOq
                    have hbq3 : jis V89 (.inl 3) st9 := ⟨_, s3, rfl⟩
                    have hbq4 : jis V89 (.inl 10) qu9 := ⟨_, s4, rfl⟩
                    have hbq5 : jis V89 (.inl 11) dg9 := ⟨_, s5, rfl⟩
                    have hRD : i4n32.toInt.toNat = (jdir x1.toInt).toNat ^ sn9.toInt.toNat := by rw [es9]; exact hRX
                    refine J_aload_n dX6_reach_92 rfl ?_
                    refine J_get jf_X6_22 dX6_reach_93 hx hF_tr ?_
                    refine Jw_callV1 (q9 := (RX5, TX5, 7)) moX5_countReached jw_ml_X6_198 jw_im_X5_countReached jw_se_X5_countReached hj899 rfl rfl dX6_reach_96 (w_X5_countReached_z (d - 1) _ q81 tr x1 sn9 b9 qz9 MT nT st9 qu9 dg9 sT xxT yyT zzT i4n32.toInt.toNat (fun _ => 0) (fun _ => 0) (fun _ => 0) ST XT YT ZT (by omega) hW  hj899 hb_tr ⟨_, hOq, hq0⟩ ⟨_, hOq, hq1⟩ ⟨_, hOq, hq2⟩ ⟨_, hOq, hq6⟩ ⟨_, hO_tr, hF_MT⟩ ⟨_, hO_tr, hF_nT⟩ ⟨_, hOq, hq3⟩ ⟨_, hOq, hq4⟩ ⟨_, hOq, hq5⟩ ⟨_, hO_tr, hF_sT⟩ ⟨_, hO_tr, hF_xxT⟩ ⟨_, hO_tr, hF_yyT⟩ ⟨_, hO_tr, hF_zzT⟩ s3 s4 s5 ha_ST ha_XT ha_YT ha_ZT (by omega) (by omega) (by omega) eb9 (by omega) (by omega) (by omega) hRD (by omega) rfl hz0 hz1 hz2) (by omega) (Nat.zero_le _) (Nat.zero_le _) (Nat.le_of_ble_eq_true rfl) (fun r96 V96 h96 => ?_)
                    obtain ⟨h96, hX96_0⟩ := h96
                    obtain ⟨hW, hx96, hr96⟩ := h96
                    have hkr := hkr.trans he.1 (jrt.call hx hF_tr hX96_0)
                    have he := he.trans (hx96.sub (jsub_of rfl))
                    have hj9 := hj9.trans (jle9.of hx96 (jnot_of rfl))
                    have hjt := hjt.keep hx96 (jdis_of rfl)
                    have hfk := hfk.keep hx96 (jdis_of rfl)
                    have ha0 := ha0.mono hx96.1
                    have htlk := htlk.mono hx96.1
                    have hb_tr := hb_tr.mono hx96.1
                    have hb_sT := hb_sT.mono hx96.1
                    have hb_xxT := hb_xxT.mono hx96.1
                    have hb_yyT := hb_yyT.mono hx96.1
                    have hb_zzT := hb_zzT.mono hx96.1
                    have hbt := hbt.mono hx96.1
                    have hbrn := hbrn.mono hx96.1
                    have hbq3 := hbq3.mono hx96.1
                    have hbq4 := hbq4.mono hx96.1
                    have hbq5 := hbq5.mono hx96.1
                    have hx := hx96.2 _ _ hx (jnot_of rfl)
                    have hKx := hKx.mono hx96.1
                    obtain ⟨fs96tr, hOfs96tr, hRfs96tr⟩ := hx96.1.keep hO_tr
                    have hKfs96tr : jokO _ (jFs 1) fs96tr := hW _ _ id hOfs96tr
                    have hFfs96tr_1 := hRfs96tr _ _ hF_sT
                    have hFfs96tr_2 := hRfs96tr _ _ hF_xxT
                    have hFfs96tr_3 := hRfs96tr _ _ hF_yyT
                    have hFfs96tr_4 := hRfs96tr _ _ hF_zzT
                    have hT := hx96.2 _ _ hT (jnot_of rfl)
                    have hKt := hKt.mono hx96.1
                    have htl2 := hx96.2 _ _ htl2 (jnot_of rfl)
                    have d9 := hx96.2 _ _ d9 (jnot_of rfl)
                    obtain ⟨y96, rfl, hl96, hh96, hP96_0⟩ := hr96
                    clear hl96 hh96
                    have hval : y96.toInt = ((jre (j : Int) x2.toInt.toNat : Nat) : Int) := by
                      rw [hP96_0, es9, hRX, hgj]
                      rfl
                    refine J_callS3 moX6_put jw_ml_X6_183 jw_st_X6_put dX6_reach_99 (w_X6_put_y (d - 1) _ _ _ _ hW d9 (by omega) (by omega) (by omega)) (by omega) (Nat.zero_le _) (Nat.zero_le _) (Nat.le_of_ble_eq_true rfl) (fun r99 V99 h99 => ?_)
                    obtain ⟨rfl, hW, hx99, hj99, hB99, G99, hA99, hp99, hc99, ho99⟩ := h99
                    obtain ⟨hN99, hv99⟩ := WT_rngI (r := (-2147483648, 2147483647)) hW id rfl hA99
                    clear hN99
                    have hkr := hkr.trans he.1 (jrt.of hx99 (jdis_of rfl))
                    have he := he.trans (hx99.sub (jsub_of rfl))
                    have hj9 := hj9.trans hj99
                    have ha0 := ha0.mono hx99.1
                    have htlk := htlk.mono hx99.1
                    have hb_tr := hb_tr.mono hx99.1
                    have hb_sT := hb_sT.mono hx99.1
                    have hb_xxT := hb_xxT.mono hx99.1
                    have hb_yyT := hb_yyT.mono hx99.1
                    have hb_zzT := hb_zzT.mono hx99.1
                    have hbt := hbt.mono hx99.1
                    have hbrn := hbrn.mono hx99.1
                    have hx := hx99.2 _ _ hx (jnot_of rfl)
                    have hKx := hKx.mono hx99.1
                    have hOfs96tr := hx99.2 _ _ hOfs96tr (jnot_of rfl)
                    have hKfs96tr := hKfs96tr.mono hx99.1
                    have hT := hx99.2 _ _ hT (jnot_of rfl)
                    have hKt := hKt.mono hx99.1
                    have htl2 := hx99.2 _ _ htl2 (jnot_of rfl)
                    have hjt := hjt.keep hx99 (jdis_of rfl)
                    have hfk := hfk.put hx99 hB99
                    · refine J_aload_n dX6_reach_102 rfl ?_
                      refine J_get jf_X6_190 dX6_reach_103 hT hF9 ?_
                      refine J_iload_n dX6_reach_106 rfl ?_
                      refine J_callS2 moX6_cell jw_ml_X6_110 jw_st_X6_cell dX6_reach_107 (w_X6_cell_x (d - 1) _ _ _ hA99 (by decide) rfl (by omega) (by omega)) (by omega) (Nat.zero_le _) (Nat.zero_le _) (Nat.le_of_ble_eq_true rfl) (fun r107 V107 h107 => ?_)
                      obtain ⟨⟨y107, rfl, hf107⟩, hE107⟩ := h107
                      have hE107 := hE107.symm
                      subst hE107
                      · exact J_ret (r := some (.int _)) dX6_reach_110 ⟨rfl, _, rfl, rfl⟩ (⟨⟨hW, he, ⟨_, rfl, (j_rng _).1, (j_rng _).2, (Or.inr ⟨by omega, by omega, Or.inr ⟨by omega, by rw [← hf107, hp99]; exact hval⟩⟩)⟩⟩, hj9, ⟨_, htl2, fun i hi => va_up_ne _ _ hi, _, va_up_self _ _ _⟩, hjt, (hup _ _ hfk hA99 (fun m hm => by by_cases e : m = x2.toInt.toNat; (subst e; exact Or.inr (by rw [hp99]; exact hval)); (rw [ho99 m e]; exact hrn m hm))), hkr⟩)
              · refine Jz_bipush (-5) dX6_reach_61 (by decide) (fun y61 he61 => ?_)
                exact J_ret (r := some (.int _)) dX6_reach_63 ⟨rfl, _, rfl, rfl⟩ (⟨⟨hW, he, ⟨_, rfl, (j_rng _).1, (j_rng _).2, (Or.inr ⟨by omega, by omega, Or.inl ⟨by omega, he61.eq⟩⟩)⟩⟩, hj9, ⟨_, htl2, fun i hi => va_up_ne _ _ hi, _, va_up_self _ _ _⟩, hjt, htf1, hkr⟩)
            · refine J_iload dX6_reach_38 rfl ?_
              refine J_iload_n dX6_reach_40 rfl ?_
              refine J_callS1 moX0_directions jw_ml_X6_187 jw_st_X0_directions dX6_reach_41 (w_X0_directions_z (d - 1) _ x1 (by omega)   ) (by omega) (Nat.zero_le _) (Nat.zero_le _) (Nat.le_of_ble_eq_true rfl) (fun r41 V41 h41 => ?_)
              obtain ⟨⟨y41, rfl, hl41, hh41, hP41_0⟩, hE41⟩ := h41
              have hE41 := hE41.symm
              subst hE41
              have hz41 : jEq y41.toInt (jdir (x1.toInt)) := hP41_0
              simp only [hP41_0] at hl41 hh41
              clear hP41_0
              have hjd := jdir_cases x1.toInt
              have hq1 : i4n32.toInt * jdir x1.toInt = jpw (jdir x1.toInt) (i5n32.toInt.toNat + 1) := by rw [hpw, Int.mul_comm]; rfl
              have hq2 := jpw_le6 (d := jdir x1.toInt) (by omega) (by omega) (n := i5n32.toInt.toNat + 1) (by omega)
              have hq3 := jpw_pos (d := jdir x1.toInt) (by omega) (i5n32.toInt.toNat + 1)
              refine Jz_imul jEq.rf hz41 dX6_reach_44 (by omega) (by omega) (fun y44 he44 => ?_)
              refine J_istore dX6_reach_45 rfl (by decide) ?_
              refine Jz_iinc 1 dX6_reach_47 rfl rfl (by decide) jEq.rf (by decide) (by omega) (by omega) (fun y47 he47 => ?_)
              refine J_goto (tgt := 32) dX6_reach_50 (by decide) ?_
              refine J.mask [true, true, true, true, true, true] ?_
              exact ih32  y44 y47  (by (try simp only [he44.eq, he47.eq, true_and, and_true]) <;> omega) (by rw [he44.eq, Int.mul_comm, hpw, he47.eq, show (i5n32.toInt + 1).toNat = i5n32.toInt.toNat + 1 by omega]; rfl) (by (try simp only [he44.eq, he47.eq, true_and, and_true]) <;> omega)
        refine J.mask [true, true, true, true, true, true] ?_
        exact L32 _  y26 y29    (by (try simp only [he26.eq, he29.eq, true_and, and_true]) <;> omega) (by rw [he26.eq, he29.eq]; rfl) (Nat.lt_succ_self _)
      · refine Jz_bipush (-2) dX6_reach_23 (by decide) (fun y23 he23 => ?_)
        exact J_ret (r := some (.int _)) dX6_reach_25 ⟨rfl, _, rfl, rfl⟩ (⟨⟨hW, he, ⟨_, rfl, (j_rng _).1, (j_rng _).2, (Or.inl ⟨by omega, he23.eq⟩)⟩⟩, hj9, ⟨_, htl2, fun i hi => va_up_ne _ _ hi, _, va_up_self _ _ _⟩, hjt, htf1, hkr⟩)
set_option maxRecDepth 100000 in
set_option maxHeartbeats 8000000 in
theorem w_X7_meets_z {tS : jTS} (d : Nat) (V0 : jH) (a0 : Nat) (x1 : Int32) (qd : Int32) (rb : Nat) (qq : Nat) (R : Nat) (L : List Nat) (pw : Nat → Prop) (MT : Nat → Int32) (QU : Nat → Int32) (hd : 0 ≤ d) (hW : WT V0) (ha0 : jis V0 (.inr 5) a0) (hf_qd : jfI V0 a0 5 22 qd) (hr_rb : jfR V0 a0 5 20 rb) (hr_qq : jfR V0 a0 5 21 qq) (ha_MT : V0 rb = some (.inl (42, 10000, .inl MT))) (ha_QU : V0 qq = some (.inl (29, 10000, .inl QU))) (hp0 : 0 ≤ x1.toInt) (hp1 : x1.toInt < (R : Int)) (hp2 : R ≤ 10000) (hp3 : jrr9 R MT QU qd.toInt L) (hp4 : pw x1.toInt.toNat) : jTot tS mX7_meets d [.ref a0, .int x1] V0 0 0 (fun r V => (jPost [.inl 42, .inl 29, .inr 5] V0 rV) r V ∧ (∃ (MT2 QU2 : Nat → Int32) (q2 : Int32), V rb = some (.inl (42, 10000, .inl MT2)) ∧ V qq = some (.inl (29, 10000, .inl QU2)) ∧ jfI V a0 5 22 q2 ∧ jrr9 R MT2 QU2 q2.toInt (jadd pw L x1.toInt.toNat)) ∧ jkc 5 [0, 23, 24] V0 V) := by
  refine jTot.of_J [some (.ref a0), some (.int x1)] moX7_meets (Nat.le_of_ble_eq_true rfl) rfl ?_
  have hrx1 := j_rng x1
  have he : jeff [.inl 42, .inl 29, .inr 5] V0 V0 := jeff.refl _ _
  have hkp : jkc 5 [0, 23, 24] V0 V0 := jkc.rf
  obtain ⟨fs_a0, hO_a0, hK_a0⟩ := WT_obj hW id ha0
  have hF_qd := hf_qd.get hO_a0
  have hrqd : (-2147483648) ≤ qd.toInt ∧ qd.toInt ≤ 2147483647 := jok_rngI hK_a0 rfl hF_qd
  have hF_rb := hr_rb.get hO_a0
  obtain ⟨w_rb, hFq_rb, b_rb, hbq_rb, hb_rb⟩ := hK_a0.2 20 (.inr (some (.inl 42))) rfl
  cases hF_rb.symm.trans (hFq_rb.trans (congrArg some hbq_rb))
  have hF_qq := hr_qq.get hO_a0
  obtain ⟨w_qq, hFq_qq, b_qq, hbq_qq, hb_qq⟩ := hK_a0.2 21 (.inr (some (.inl 29))) rfl
  cases hF_qq.symm.trans (hFq_qq.trans (congrArg some hbq_qq))
  obtain ⟨hN_MT, hv_MT⟩ := WT_rngI (r := (0, 1)) hW id rfl ha_MT
  clear hN_MT
  obtain ⟨hN_QU, hv_QU⟩ := WT_rngI (r := (0, 9999)) hW id rfl ha_QU
  clear hN_QU
  refine J_aload_n dX7_meets_0 rfl ?_
  refine J_get jf_X7_67 dX7_meets_1 hO_a0 hF_rb ?_
  refine J_iload_n dX7_meets_4 rfl ?_
  refine Jz_zald (r := (0, 1)) jEq.rf dX7_meets_5 ha_MT rfl hv_MT (by omega) (by omega) (fun y5 hf5 hl5 hh5 => ?_)
  dsimp only at hl5 hh5
  have e5 : (MT x1.toInt.toNat).toInt = y5.toInt := by rw [hf5]
  have hln := hp3.len
  refine Jz_if_ne (tgt := 36) jEq.rf dX7_meets_6 (by decide) (fun c6 => ?_) (fun c6 => ?_)
  · have hnz : ¬ (MT x1.toInt.toNat).toInt = 0 := by rw [e5]; omega
    exact J_ret (r := none) dX7_meets_36 ⟨rfl, rfl⟩ (⟨⟨hW, he, rfl⟩, ⟨MT, QU, qd, ha_MT, ha_QU, ⟨_, hO_a0, hF_qd⟩, hp3.same (by omega) (Or.inl hnz)⟩, hkp⟩)
  · have hz9 : (MT x1.toInt.toNat).toInt = 0 := by rw [e5]; omega
    have hrm := hp3.room (by omega) hz9
    refine J_aload_n dX7_meets_9 rfl ?_
    refine J_get jf_X7_67 dX7_meets_10 hO_a0 hF_rb ?_
    refine J_iload_n dX7_meets_13 rfl ?_
    refine Jz_iconst 1 dX7_meets_14 (by decide) (fun y14 he14 => ?_)
    refine Jz_zast (r := (0, 1)) jEq.rf he14 hW id dX7_meets_15 ha_MT rfl rfl (by omega) (by omega) (by omega) (by omega) (fun _ h => vp_nar_b (by omega) (by omega)) (fun V15 G15 hW hx15 hA15 hp15 ho15 => ?_)
    obtain ⟨hN15, hv15⟩ := WT_rngI (r := (0, 1)) hW id rfl hA15
    clear hN15
    have he := he.trans (hx15.sub (jsub_of rfl))
    have hkp := hkp.trans (jkc.of hx15 (jnot_of rfl))
    have ha0 := ha0.mono hx15.1
    have hb_rb := hb_rb.mono hx15.1
    have hb_qq := hb_qq.mono hx15.1
    have hO_a0 := hx15.2 _ _ hO_a0 (jnot_of rfl)
    have hK_a0 := hK_a0.mono hx15.1
    have ha_QU := hx15.2 _ _ ha_QU (jnot_of rfl)
    refine J_aload_n dX7_meets_16 rfl ?_
    refine J_get jf_X7_70 dX7_meets_17 hO_a0 hF_qq ?_
    refine J_aload_n dX7_meets_20 rfl ?_
    refine J_get jf_X7_205 dX7_meets_21 hO_a0 hF_qd ?_
    refine J_iload_n dX7_meets_24 rfl ?_
    refine Jz_iast (r := (0, 9999)) jEq.rf jEq.rf hW id dX7_meets_25 ha_QU rfl rfl (by omega) (by omega) (by omega) (by omega) (fun V25 G25 hW hx25 hA25 hp25 ho25 => ?_)
    obtain ⟨hN25, hv25⟩ := WT_rngI (r := (0, 9999)) hW id rfl hA25
    clear hN25
    have he := he.trans (hx25.sub (jsub_of rfl))
    have hkp := hkp.trans (jkc.of hx25 (jnot_of rfl))
    have ha0 := ha0.mono hx25.1
    have hb_rb := hb_rb.mono hx25.1
    have hb_qq := hb_qq.mono hx25.1
    have hO_a0 := hx25.2 _ _ hO_a0 (jnot_of rfl)
    have hK_a0 := hK_a0.mono hx25.1
    have hA15 := hx25.2 _ _ hA15 (jnot_of rfl)
    refine J_aload_n dX7_meets_26 rfl ?_
    refine J_dup dX7_meets_27 rfl ?_
    refine J_get jf_X7_205 dX7_meets_28 hO_a0 hF_qd ?_
    refine Jz_iconst 1 dX7_meets_31 (by decide) (fun y31 he31 => ?_)
    refine Jz_iadd jEq.rf he31 dX7_meets_32 (by omega) (by omega) (fun y32 he32 => ?_)
    refine Jz_putI hO_a0 hW id rfl jf_X7_205 jt_X7_22 he32 dX7_meets_33 (by omega) (by omega) (fun _ _ => ⟨rfl, rfl⟩) (fun V33 fs33 hW hx33 hO33 hS33 hT33 hB33 => ?_)
    have hK33 : jokO _ (jFs 5) fs33 := hW _ _ id hO33
    have hF33_20 := (hT33 20 (by decide)).trans hF_rb
    have hF33_21 := (hT33 21 (by decide)).trans hF_qq
    have he := he.trans (hx33.sub (jsub_of rfl))
    have hkp := hkp.trans (jkc.put hO_a0 hO33 hT33 hB33 (by decide))
    have ha0 := ha0.mono hx33.1
    have hb_rb := hb_rb.mono hx33.1
    have hb_qq := hb_qq.mono hx33.1
    have hA15 := hx33.2 _ _ hA15 (jnot_of rfl)
    have hA25 := hx33.2 _ _ hA25 (jnot_of rfl)
    exact J_ret (r := none) dX7_meets_36 ⟨rfl, rfl⟩ (⟨⟨hW, he, rfl⟩, ⟨G15, G25, y32, hA15, hA25, ⟨_, hO33, hS33⟩, (by rw [he32.eq]; exact hp3.add (by omega) hz9 hp4 (by rw [hp15, he14.eq]) ho15 (by rw [show L.length = qd.toInt.toNat by omega, hp25]; omega) (fun k hk => ho25 k (by omega)))⟩, hkp⟩)
