set_option maxRecDepth 100000 in
set_option maxHeartbeats 4000000 in
theorem w_X5_init_z {tS : jTS} (d : Nat) (V0 : jH) (q : Nat) (x1 : Int32) (x2 : Int32) (x3 : Int32)  (hd : 1 ≤ d) (hW : WTx (fun a => False ∨ a = q) V0) (hq : V0 q = some (.inr (3, [.int 0, .int 0, .int 0, .null, .null, .null, .int 0])))   : jTot tS mX5_init d [.ref q, .int x1, .int x2, .int x3] V0 3 20006 (fun r V => r = none ∧ WTx (fun _ => False) V ∧ jeff [.inr 3] V0 V ∧ jis V (.inr 3) q ∧ (jtu V0 V q x1 x2 x3)) := by
  refine jTot.of_J [some (.ref q), some (.int x1), some (.int x2), some (.int x3), none] moX5_init (Nat.le_of_ble_eq_true rfl) rfl ?_
  have he : jeff [.inr 3] V0 V0 := jeff.refl _ _
  have hkp : jfa [q] V0 V0 := jfa.rf
  refine J_aload_n dX5_init_0 rfl ?_
  refine J_objInit jw_ml_X5_3 jw_oi2 jw_oi3 dX5_init_1 (by omega) (Nat.le_of_ble_eq_true rfl) ?_
  refine J_aload_n dX5_init_4 rfl ?_
  refine J_bipush (v := 6) dX5_init_5 (by decide) ?_
  refine Jc_newax (atype := .int) (t := 11) (B := 6) (x := .inl (fun _ => 0)) jw_ac_int rfl (fun _ h => by cases h) (by decide) dX5_init_7 (by decide) (by decide) (by decide) (fun _ _ => rfl) (fun hN => jok_zI rfl (by decide) (by decide) (fun m h => by cases h <;> rfl) hN) (by decide) (by decide) hW (fun b7 V7 hn7 hb7 hk7 hW hx7 hA7 => ?_)
  have hz7 := he.1.none hn7
  have hkp := hkp.trans he.1 (jfa.new hk7)
  have he := he.trans (hx7.sub (jsub_of rfl))
  have hq := hk7 _ _ hq
  have hA7 : V7 b7 = some (.inl (11, 6, .inl (fun _ => 0))) := hA7
  refine Jc_putF jf_X5_9 jt_X5_5 rfl (fun _ h => by cases h; rfl) dX5_init_9 hq rfl rfl (Nat.le_of_ble_eq_true rfl) (fun _ h => by cases h) hW (fun V9 hq hW hx9 hB9 => ?_)
  have hkp := hkp.trans he.1 (jfa.one hB9)
  have he := he.trans (hx9.sub (jsub_of rfl))
  have hb7 := hb7.mono hx9.1
  have hA7 := hx9.2 _ _ hA7 (jnot_of rfl)
  refine J_aload_n dX5_init_12 rfl ?_
  refine J_iconst (v := 0) dX5_init_13 (by decide) ?_
  refine Jc_put jf_X5_15 jt_X5_6 dX5_init_14 hq rfl rfl (Nat.le_of_ble_eq_true rfl) (fun _ h => by cases h) hW (fun V14 hq hW hx14 hB14 => ?_)
  have hkp := hkp.trans he.1 (jfa.one hB14)
  have he := he.trans (hx14.sub (jsub_of rfl))
  have hb7 := hb7.mono hx14.1
  have hA7 := hx14.2 _ _ hA7 (jnot_of rfl)
  refine J_aload_n dX5_init_17 rfl ?_
  refine J_iload_n dX5_init_18 rfl ?_
  refine Jc_putF jf_X5_19 jt_X5_0 rfl (fun _ h => by cases h; rfl) dX5_init_19 hq rfl rfl (Nat.le_of_ble_eq_true rfl) (fun _ h => by cases h) hW (fun V19 hq hW hx19 hB19 => ?_)
  have hkp := hkp.trans he.1 (jfa.one hB19)
  have he := he.trans (hx19.sub (jsub_of rfl))
  have hb7 := hb7.mono hx19.1
  have hA7 := hx19.2 _ _ hA7 (jnot_of rfl)
  refine J_aload_n dX5_init_22 rfl ?_
  refine J_iconst (v := 0) dX5_init_23 (by decide) ?_
  refine J_iload_n dX5_init_24 rfl ?_
  refine J_bipush (v := 6) dX5_init_25 (by decide) ?_
  refine J_mmin jw_ml_X5_22 dX5_init_27 (by omega) (Nat.le_of_ble_eq_true rfl) ?_
  refine J_mmax jw_ml_X5_28 dX5_init_30 (by omega) (Nat.le_of_ble_eq_true rfl) ?_
  refine Jc_putF jf_X5_31 jt_X5_1 rfl (fun _ h => by cases h; rfl) dX5_init_33 hq rfl rfl (Nat.le_of_ble_eq_true rfl) (fun _ h => by cases h) hW (fun V33 hq hW hx33 hB33 => ?_)
  have hkp := hkp.trans he.1 (jfa.one hB33)
  have he := he.trans (hx33.sub (jsub_of rfl))
  have hb7 := hb7.mono hx33.1
  have hA7 := hx33.2 _ _ hA7 (jnot_of rfl)
  refine J_aload_n dX5_init_36 rfl ?_
  refine J_iload_n dX5_init_37 rfl ?_
  refine J_callS1 moX0_directions jw_ml_X5_34 jw_st_X0_directions dX5_init_38 (w_X0_directions_z (d - 1) _ x1 (by omega)) (by omega) (Nat.zero_le _) (Nat.zero_le _) (Nat.le_of_ble_eq_true rfl) (fun r38 V38 h38 => ?_)
  obtain ⟨⟨y38, rfl, hl38, hh38, hP38⟩, hE38⟩ := h38
  have hE38 := hE38.symm
  subst hE38
  · refine Jc_putF jf_X5_40 jt_X5_2 rfl (fun _ h => by cases h; rfl) dX5_init_41 hq rfl rfl (Nat.le_of_ble_eq_true rfl) (fun _ h => by cases h) hW (fun V41 hq hW hx41 hB41 => ?_)
    have hkp := hkp.trans he.1 (jfa.one hB41)
    have he := he.trans (hx41.sub (jsub_of rfl))
    have hb7 := hb7.mono hx41.1
    have hA7 := hx41.2 _ _ hA7 (jnot_of rfl)
    refine J_iconst (v := 0) dX5_init_44 (by decide) ?_
    refine J_iload_n dX5_init_45 rfl ?_
    refine J_sipush (v := 10000) dX5_init_46 (by decide) ?_
    refine J_mmin jw_ml_X5_22 dX5_init_49 (by omega) (Nat.le_of_ble_eq_true rfl) ?_
    refine J_mmax jw_ml_X5_28 dX5_init_52 (by omega) (Nat.le_of_ble_eq_true rfl) ?_
    refine J_istore dX5_init_55 rfl (by decide) ?_
    refine J_aload_n dX5_init_57 rfl ?_
    refine J_iload dX5_init_58 rfl ?_
    refine Jc_newax (atype := .byte) (t := 3) (B := 10000) (x := .inl (fun _ => 0)) jw_ac_byte rfl (fun _ h => by cases h) (by decide) dX5_init_60 (jroom_lo _) (jroom_hi _) (by decide) (fun _ _ => rfl) (fun hN => jok_zI rfl (by decide) (by decide) (fun m h => by cases h <;> rfl) hN) (by decide) (by decide) hW (fun b60 V60 hn60 hb60 hk60 hW hx60 hA60 => ?_)
    have hz60 := he.1.none hn60
    have hkp := hkp.trans he.1 (jfa.new hk60)
    have he := he.trans (hx60.sub (jsub_of rfl))
    have hb7 := hb7.mono hx60.1
    have hq := hk60 _ _ hq
    have hA7 := hk60 _ _ hA7
    refine Jc_putF jf_X5_43 jt_X5_3 rfl (fun _ h => by cases h; rfl) dX5_init_62 hq rfl rfl (Nat.le_of_ble_eq_true rfl) (fun _ h => by cases h) hW (fun V62 hq hW hx62 hB62 => ?_)
    have hkp := hkp.trans he.1 (jfa.one hB62)
    have he := he.trans (hx62.sub (jsub_of rfl))
    have hb7 := hb7.mono hx62.1
    have hb60 := hb60.mono hx62.1
    have hA7 := hx62.2 _ _ hA7 (jnot_of rfl)
    have hA60 := hx62.2 _ _ hA60 (jnot_of rfl)
    refine J_aload_n dX5_init_65 rfl ?_
    refine J_iload dX5_init_66 rfl ?_
    refine Jc_newax (atype := .int) (t := 10) (B := 10000) (x := .inl (fun _ => 0)) jw_ac_int rfl (fun _ h => by cases h) (by decide) dX5_init_68 (jroom_lo _) (jroom_hi _) (by decide) (fun _ _ => rfl) (fun hN => jok_zI rfl (by decide) (by decide) (fun m h => by cases h <;> rfl) hN) (by decide) (by decide) hW (fun b68 V68 hn68 hb68 hk68 hW hx68 hA68 => ?_)
    have hz68 := he.1.none hn68
    have hkp := hkp.trans he.1 (jfa.new hk68)
    have he := he.trans (hx68.sub (jsub_of rfl))
    have hb7 := hb7.mono hx68.1
    have hb60 := hb60.mono hx68.1
    have hq := hk68 _ _ hq
    have hA7 := hk68 _ _ hA7
    have hA60 := hk68 _ _ hA60
    refine Jc_putF jf_X5_47 jt_X5_4 rfl (fun _ h => by cases h; rfl) dX5_init_70 hq rfl rfl (Nat.le_of_ble_eq_true rfl) (fun _ h => by cases h) hW (fun V70 hq hW hx70 hB70 => ?_)
    have hkp := hkp.trans he.1 (jfa.one hB70)
    have he := he.trans (hx70.sub (jsub_of rfl))
    have hb7 := hb7.mono hx70.1
    have hb60 := hb60.mono hx70.1
    have hb68 := hb68.mono hx70.1
    have hA7 := hx70.2 _ _ hA7 (jnot_of rfl)
    have hA60 := hx70.2 _ _ hA60 (jnot_of rfl)
    have hA68 := hx70.2 _ _ hA68 (jnot_of rfl)
    have hls := jst_lo x2
    have hhs := jst_hi x2
    exact J_ret (r := none) dX5_init_73 ⟨rfl, rfl⟩ (⟨rfl, hW.fin hq (jokO_cons ⟨_, rfl, (j_rng _).1, (j_rng _).2⟩ (jokO_cons ⟨_, rfl, by first | decide | assumption | omega, by first | decide | assumption | omega⟩ (jokO_cons ⟨_, rfl, (j_rng _).1, (j_rng _).2⟩ (jokO_cons ⟨_, rfl, hb60⟩ (jokO_cons ⟨_, rfl, hb68⟩ (jokO_cons ⟨_, rfl, hb7⟩ (jokO_cons ⟨_, rfl, by first | decide | assumption | omega, by first | decide | assumption | omega⟩ (jokO_nil)))))))), he, ⟨_, hq, rfl⟩, jtu.mk hz60 hz68 hz7 hP38 ⟨_, hq, rfl⟩ ⟨_, hq, rfl⟩ ⟨_, hq, rfl⟩ ⟨_, hq, rfl⟩ ⟨_, hq, rfl⟩ ⟨_, hq, rfl⟩ ⟨_, hq, rfl⟩ hA60 hA68 hA7 hkp⟩)
