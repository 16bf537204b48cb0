set_option maxRecDepth 100000 in
set_option maxHeartbeats 4000000 in
theorem w_X4_init_z {tS : jTS} (d : Nat) (V0 : jH) (q : Nat) (x1 : Int32)  (hd : 1 ≤ d) (hW : WTx (fun a => False ∨ a = q) V0) (hq : V0 q = some (.inr (2, [.int 0, .int 0, .int 0, .null, .null, .null, .null, .null, .null, .null, .int 0, .int 0, .int 0, .int 0])))  (hg0 : 0 ≤ x1.toInt) (hg3 : x1.toInt ≤ 3) : jTot tS mX4_init d [.ref q, .int x1] V0 7 15724 (fun r V => r = none ∧ WTx (fun _ => False) V ∧ jeff [.inr 2] V0 V ∧ jis V (.inr 2) q ∧ (jtyn V0 V q x1.toInt)) := by
  refine jTot.of_J [some (.ref q), some (.int x1), none] moX4_init (Nat.le_of_ble_eq_true rfl) rfl ?_
  have he : jeff [.inr 2] V0 V0 := jeff.refl _ _
  have hkp : jfa [q] V0 V0 := jfa.rf
  refine J_aload_n dX4_init_0 rfl ?_
  refine J_objInit jw_ml_X4_3 jw_oi2 jw_oi3 dX4_init_1 (by omega) (Nat.le_of_ble_eq_true rfl) ?_
  refine J_aload_n dX4_init_4 rfl ?_
  refine J_bipush (v := 21) dX4_init_5 (by decide) ?_
  refine Jc_newax (atype := .int) (t := 8) (B := 21) (x := .inl (fun _ => 0)) jw_ac_int rfl (fun _ h => by cases h) (by decide) dX4_init_7 (by decide) (by decide) (by decide) (fun _ _ => rfl) (fun hN => jok_zI rfl (by decide) (by decide) (fun m h => by cases h <;> rfl) hN) (by decide) (by decide) hW (fun b7 V7 hn7 hb7 hk7 hW hx7 hA7 => ?_)
  have hz7 := he.1.none hn7
  have hkp := hkp.trans he.1 (jfa.new hk7)
  have he := he.trans (hx7.sub (jsub_of rfl))
  have hq := hk7 _ _ hq
  have hA7 : V7 b7 = some (.inl (8, 21, .inl (fun _ => 0))) := hA7
  refine Jc_putF jf_X4_9 jt_X4_4 rfl (fun _ h => by cases h; rfl) dX4_init_9 hq rfl rfl (Nat.le_of_ble_eq_true rfl) (fun _ h => by cases h) hW (fun V9 hq hW hx9 hB9 => ?_)
  have hq : V9 q = some (.inr (2, [.int 0, .int 0, .int 0, .null, .ref b7, .null, .null, .null, .null, .null, .int 0, .int 0, .int 0, .int 0])) := hq
  have hkp := hkp.trans he.1 (jfa.one hB9)
  have he := he.trans (hx9.sub (jsub_of rfl))
  have hb7 := hb7.mono hx9.1
  have hA7 := hx9.2 _ _ hA7 (jnot_of rfl)
  refine J_aload_n dX4_init_12 rfl ?_
  refine J_bipush (v := 21) dX4_init_13 (by decide) ?_
  refine Jc_newax (atype := .long) (t := 1) (B := 21) (x := .inr (.inl (fun _ => 0))) jw_ac_long rfl (fun _ h => by cases h) (by decide) dX4_init_15 (by decide) (by decide) (by decide) (fun _ _ => rfl) (fun hN => jok_zL rfl (fun m h => by cases h <;> rfl) hN) (by decide) (by decide) hW (fun b15 V15 hn15 hb15 hk15 hW hx15 hA15 => ?_)
  have hz15 := he.1.none hn15
  have hkp := hkp.trans he.1 (jfa.new hk15)
  have he := he.trans (hx15.sub (jsub_of rfl))
  have hb7 := hb7.mono hx15.1
  have hq := hk15 _ _ hq
  have hA7 := hk15 _ _ hA7
  have hA15 : V15 b15 = some (.inl (1, 21, .inr (.inl (fun _ => 0)))) := hA15
  refine Jc_putF jf_X4_15 jt_X4_5 rfl (fun _ h => by cases h; rfl) dX4_init_17 hq rfl rfl (Nat.le_of_ble_eq_true rfl) (fun _ h => by cases h) hW (fun V17 hq hW hx17 hB17 => ?_)
  have hq : V17 q = some (.inr (2, [.int 0, .int 0, .int 0, .null, .ref b7, .ref b15, .null, .null, .null, .null, .int 0, .int 0, .int 0, .int 0])) := hq
  have hkp := hkp.trans he.1 (jfa.one hB17)
  have he := he.trans (hx17.sub (jsub_of rfl))
  have hb7 := hb7.mono hx17.1
  have hb15 := hb15.mono hx17.1
  have hA7 := hx17.2 _ _ hA7 (jnot_of rfl)
  have hA15 := hx17.2 _ _ hA15 (jnot_of rfl)
  refine J_aload_n dX4_init_20 rfl ?_
  refine J_bipush (v := 21) dX4_init_21 (by decide) ?_
  refine Jc_newax (atype := .int) (t := 37) (B := 21) (x := .inl (fun _ => 0)) jw_ac_int rfl (fun _ h => by cases h) (by decide) dX4_init_23 (by decide) (by decide) (by decide) (fun _ _ => rfl) (fun hN => jok_zI rfl (by decide) (by decide) (fun m h => by cases h <;> rfl) hN) (by decide) (by decide) hW (fun b23 V23 hn23 hb23 hk23 hW hx23 hA23 => ?_)
  have hz23 := he.1.none hn23
  have hkp := hkp.trans he.1 (jfa.new hk23)
  have he := he.trans (hx23.sub (jsub_of rfl))
  have hb7 := hb7.mono hx23.1
  have hb15 := hb15.mono hx23.1
  have hq := hk23 _ _ hq
  have hA7 := hk23 _ _ hA7
  have hA15 := hk23 _ _ hA15
  have hA23 : V23 b23 = some (.inl (37, 21, .inl (fun _ => 0))) := hA23
  refine Jc_putF jf_X4_19 jt_X4_6 rfl (fun _ h => by cases h; rfl) dX4_init_25 hq rfl rfl (Nat.le_of_ble_eq_true rfl) (fun _ h => by cases h) hW (fun V25 hq hW hx25 hB25 => ?_)
  have hq : V25 q = some (.inr (2, [.int 0, .int 0, .int 0, .null, .ref b7, .ref b15, .ref b23, .null, .null, .null, .int 0, .int 0, .int 0, .int 0])) := hq
  have hkp := hkp.trans he.1 (jfa.one hB25)
  have he := he.trans (hx25.sub (jsub_of rfl))
  have hb7 := hb7.mono hx25.1
  have hb15 := hb15.mono hx25.1
  have hb23 := hb23.mono hx25.1
  have hA7 := hx25.2 _ _ hA7 (jnot_of rfl)
  have hA15 := hx25.2 _ _ hA15 (jnot_of rfl)
  have hA23 := hx25.2 _ _ hA23 (jnot_of rfl)
  refine J_aload_n dX4_init_28 rfl ?_
  refine J_bipush (v := 21) dX4_init_29 (by decide) ?_
  refine Jc_newax (atype := .int) (t := 38) (B := 21) (x := .inl (fun _ => 0)) jw_ac_int rfl (fun _ h => by cases h) (by decide) dX4_init_31 (by decide) (by decide) (by decide) (fun _ _ => rfl) (fun hN => jok_zI rfl (by decide) (by decide) (fun m h => by cases h <;> rfl) hN) (by decide) (by decide) hW (fun b31 V31 hn31 hb31 hk31 hW hx31 hA31 => ?_)
  have hz31 := he.1.none hn31
  have hkp := hkp.trans he.1 (jfa.new hk31)
  have he := he.trans (hx31.sub (jsub_of rfl))
  have hb7 := hb7.mono hx31.1
  have hb15 := hb15.mono hx31.1
  have hb23 := hb23.mono hx31.1
  have hq := hk31 _ _ hq
  have hA7 := hk31 _ _ hA7
  have hA15 := hk31 _ _ hA15
  have hA23 := hk31 _ _ hA23
  have hA31 : V31 b31 = some (.inl (38, 21, .inl (fun _ => 0))) := hA31
  refine Jc_putF jf_X4_22 jt_X4_7 rfl (fun _ h => by cases h; rfl) dX4_init_33 hq rfl rfl (Nat.le_of_ble_eq_true rfl) (fun _ h => by cases h) hW (fun V33 hq hW hx33 hB33 => ?_)
  have hq : V33 q = some (.inr (2, [.int 0, .int 0, .int 0, .null, .ref b7, .ref b15, .ref b23, .ref b31, .null, .null, .int 0, .int 0, .int 0, .int 0])) := hq
  have hkp := hkp.trans he.1 (jfa.one hB33)
  have he := he.trans (hx33.sub (jsub_of rfl))
  have hb7 := hb7.mono hx33.1
  have hb15 := hb15.mono hx33.1
  have hb23 := hb23.mono hx33.1
  have hb31 := hb31.mono hx33.1
  have hA7 := hx33.2 _ _ hA7 (jnot_of rfl)
  have hA15 := hx33.2 _ _ hA15 (jnot_of rfl)
  have hA23 := hx33.2 _ _ hA23 (jnot_of rfl)
  have hA31 := hx33.2 _ _ hA31 (jnot_of rfl)
  refine J_aload_n dX4_init_36 rfl ?_
  refine J_bipush (v := 8) dX4_init_37 (by decide) ?_
  refine Jc_newax (atype := .int) (t := 13) (B := 8) (x := .inl (fun _ => 0)) jw_ac_int rfl (fun _ h => by cases h) (by decide) dX4_init_39 (by decide) (by decide) (by decide) (fun _ _ => rfl) (fun hN => jok_zI rfl (by decide) (by decide) (fun m h => by cases h <;> rfl) hN) (by decide) (by decide) hW (fun b39 V39 hn39 hb39 hk39 hW hx39 hA39 => ?_)
  have hz39 := he.1.none hn39
  have hkp := hkp.trans he.1 (jfa.new hk39)
  have he := he.trans (hx39.sub (jsub_of rfl))
  have hb7 := hb7.mono hx39.1
  have hb15 := hb15.mono hx39.1
  have hb23 := hb23.mono hx39.1
  have hb31 := hb31.mono hx39.1
  have hq := hk39 _ _ hq
  have hA7 := hk39 _ _ hA7
  have hA15 := hk39 _ _ hA15
  have hA23 := hk39 _ _ hA23
  have hA31 := hk39 _ _ hA31
  have hA39 : V39 b39 = some (.inl (13, 8, .inl (fun _ => 0))) := hA39
  refine Jc_putF jf_X4_25 jt_X4_8 rfl (fun _ h => by cases h; rfl) dX4_init_41 hq rfl rfl (Nat.le_of_ble_eq_true rfl) (fun _ h => by cases h) hW (fun V41 hq hW hx41 hB41 => ?_)
  have hq : V41 q = some (.inr (2, [.int 0, .int 0, .int 0, .null, .ref b7, .ref b15, .ref b23, .ref b31, .ref b39, .null, .int 0, .int 0, .int 0, .int 0])) := hq
  have hkp := hkp.trans he.1 (jfa.one hB41)
  have he := he.trans (hx41.sub (jsub_of rfl))
  have hb7 := hb7.mono hx41.1
  have hb15 := hb15.mono hx41.1
  have hb23 := hb23.mono hx41.1
  have hb31 := hb31.mono hx41.1
  have hb39 := hb39.mono hx41.1
  have hA7 := hx41.2 _ _ hA7 (jnot_of rfl)
  have hA15 := hx41.2 _ _ hA15 (jnot_of rfl)
  have hA23 := hx41.2 _ _ hA23 (jnot_of rfl)
  have hA31 := hx41.2 _ _ hA31 (jnot_of rfl)
  have hA39 := hx41.2 _ _ hA39 (jnot_of rfl)
  refine J_aload_n dX4_init_44 rfl ?_
  refine J_bipush (v := 7) dX4_init_45 (by decide) ?_
  refine Jc_newax (atype := .int) (t := 9) (B := 7) (x := .inl (fun _ => 0)) jw_ac_int rfl (fun _ h => by cases h) (by decide) dX4_init_47 (by decide) (by decide) (by decide) (fun _ _ => rfl) (fun hN => jok_zI rfl (by decide) (by decide) (fun m h => by cases h <;> rfl) hN) (by decide) (by decide) hW (fun b47 V47 hn47 hb47 hk47 hW hx47 hA47 => ?_)
  have hz47 := he.1.none hn47
  have hkp := hkp.trans he.1 (jfa.new hk47)
  have he := he.trans (hx47.sub (jsub_of rfl))
  have hb7 := hb7.mono hx47.1
  have hb15 := hb15.mono hx47.1
  have hb23 := hb23.mono hx47.1
  have hb31 := hb31.mono hx47.1
  have hb39 := hb39.mono hx47.1
  have hq := hk47 _ _ hq
  have hA7 := hk47 _ _ hA7
  have hA15 := hk47 _ _ hA15
  have hA23 := hk47 _ _ hA23
  have hA31 := hk47 _ _ hA31
  have hA39 := hk47 _ _ hA39
  have hA47 : V47 b47 = some (.inl (9, 7, .inl (fun _ => 0))) := hA47
  refine Jc_putF jf_X4_28 jt_X4_9 rfl (fun _ h => by cases h; rfl) dX4_init_49 hq rfl rfl (Nat.le_of_ble_eq_true rfl) (fun _ h => by cases h) hW (fun V49 hq hW hx49 hB49 => ?_)
  have hq : V49 q = some (.inr (2, [.int 0, .int 0, .int 0, .null, .ref b7, .ref b15, .ref b23, .ref b31, .ref b39, .ref b47, .int 0, .int 0, .int 0, .int 0])) := hq
  have hkp := hkp.trans he.1 (jfa.one hB49)
  have he := he.trans (hx49.sub (jsub_of rfl))
  have hb7 := hb7.mono hx49.1
  have hb15 := hb15.mono hx49.1
  have hb23 := hb23.mono hx49.1
  have hb31 := hb31.mono hx49.1
  have hb39 := hb39.mono hx49.1
  have hb47 := hb47.mono hx49.1
  have hA7 := hx49.2 _ _ hA7 (jnot_of rfl)
  have hA15 := hx49.2 _ _ hA15 (jnot_of rfl)
  have hA23 := hx49.2 _ _ hA23 (jnot_of rfl)
  have hA31 := hx49.2 _ _ hA31 (jnot_of rfl)
  have hA39 := hx49.2 _ _ hA39 (jnot_of rfl)
  have hA47 := hx49.2 _ _ hA47 (jnot_of rfl)
  refine J_aload_n dX4_init_52 rfl ?_
  refine J_iconst (v := 0) dX4_init_53 (by decide) ?_
  refine Jc_put jf_X4_31 jt_X4_10 dX4_init_54 hq rfl rfl (Nat.le_of_ble_eq_true rfl) (fun _ h => by cases h) hW (fun V54 hq hW hx54 hB54 => ?_)
  have hq : V54 q = some (.inr (2, [.int 0, .int 0, .int 0, .null, .ref b7, .ref b15, .ref b23, .ref b31, .ref b39, .ref b47, .int 0, .int 0, .int 0, .int 0])) := hq
  have hkp := hkp.trans he.1 (jfa.one hB54)
  have he := he.trans (hx54.sub (jsub_of rfl))
  have hb7 := hb7.mono hx54.1
  have hb15 := hb15.mono hx54.1
  have hb23 := hb23.mono hx54.1
  have hb31 := hb31.mono hx54.1
  have hb39 := hb39.mono hx54.1
  have hb47 := hb47.mono hx54.1
  have hA7 := hx54.2 _ _ hA7 (jnot_of rfl)
  have hA15 := hx54.2 _ _ hA15 (jnot_of rfl)
  have hA23 := hx54.2 _ _ hA23 (jnot_of rfl)
  have hA31 := hx54.2 _ _ hA31 (jnot_of rfl)
  have hA39 := hx54.2 _ _ hA39 (jnot_of rfl)
  have hA47 := hx54.2 _ _ hA47 (jnot_of rfl)
  refine J_aload_n dX4_init_57 rfl ?_
  refine J_iconst (v := 0) dX4_init_58 (by decide) ?_
  refine Jc_put jf_X4_35 jt_X4_11 dX4_init_59 hq rfl rfl (Nat.le_of_ble_eq_true rfl) (fun _ h => by cases h) hW (fun V59 hq hW hx59 hB59 => ?_)
  have hq : V59 q = some (.inr (2, [.int 0, .int 0, .int 0, .null, .ref b7, .ref b15, .ref b23, .ref b31, .ref b39, .ref b47, .int 0, .int 0, .int 0, .int 0])) := hq
  have hkp := hkp.trans he.1 (jfa.one hB59)
  have he := he.trans (hx59.sub (jsub_of rfl))
  have hb7 := hb7.mono hx59.1
  have hb15 := hb15.mono hx59.1
  have hb23 := hb23.mono hx59.1
  have hb31 := hb31.mono hx59.1
  have hb39 := hb39.mono hx59.1
  have hb47 := hb47.mono hx59.1
  have hA7 := hx59.2 _ _ hA7 (jnot_of rfl)
  have hA15 := hx59.2 _ _ hA15 (jnot_of rfl)
  have hA23 := hx59.2 _ _ hA23 (jnot_of rfl)
  have hA31 := hx59.2 _ _ hA31 (jnot_of rfl)
  have hA39 := hx59.2 _ _ hA39 (jnot_of rfl)
  have hA47 := hx59.2 _ _ hA47 (jnot_of rfl)
  refine J_aload_n dX4_init_62 rfl ?_
  refine J_iconst (v := 0) dX4_init_63 (by decide) ?_
  refine Jc_put jf_X4_38 jt_X4_12 dX4_init_64 hq rfl rfl (Nat.le_of_ble_eq_true rfl) (fun _ h => by cases h) hW (fun V64 hq hW hx64 hB64 => ?_)
  have hq : V64 q = some (.inr (2, [.int 0, .int 0, .int 0, .null, .ref b7, .ref b15, .ref b23, .ref b31, .ref b39, .ref b47, .int 0, .int 0, .int 0, .int 0])) := hq
  have hkp := hkp.trans he.1 (jfa.one hB64)
  have he := he.trans (hx64.sub (jsub_of rfl))
  have hb7 := hb7.mono hx64.1
  have hb15 := hb15.mono hx64.1
  have hb23 := hb23.mono hx64.1
  have hb31 := hb31.mono hx64.1
  have hb39 := hb39.mono hx64.1
  have hb47 := hb47.mono hx64.1
  have hA7 := hx64.2 _ _ hA7 (jnot_of rfl)
  have hA15 := hx64.2 _ _ hA15 (jnot_of rfl)
  have hA23 := hx64.2 _ _ hA23 (jnot_of rfl)
  have hA31 := hx64.2 _ _ hA31 (jnot_of rfl)
  have hA39 := hx64.2 _ _ hA39 (jnot_of rfl)
  have hA47 := hx64.2 _ _ hA47 (jnot_of rfl)
  refine J_aload_n dX4_init_67 rfl ?_
  refine J_iconst (v := 0) dX4_init_68 (by decide) ?_
  refine Jc_put jf_X4_41 jt_X4_13 dX4_init_69 hq rfl rfl (Nat.le_of_ble_eq_true rfl) (fun _ h => by cases h) hW (fun V69 hq hW hx69 hB69 => ?_)
  have hq : V69 q = some (.inr (2, [.int 0, .int 0, .int 0, .null, .ref b7, .ref b15, .ref b23, .ref b31, .ref b39, .ref b47, .int 0, .int 0, .int 0, .int 0])) := hq
  have hkp := hkp.trans he.1 (jfa.one hB69)
  have he := he.trans (hx69.sub (jsub_of rfl))
  have hb7 := hb7.mono hx69.1
  have hb15 := hb15.mono hx69.1
  have hb23 := hb23.mono hx69.1
  have hb31 := hb31.mono hx69.1
  have hb39 := hb39.mono hx69.1
  have hb47 := hb47.mono hx69.1
  have hA7 := hx69.2 _ _ hA7 (jnot_of rfl)
  have hA15 := hx69.2 _ _ hA15 (jnot_of rfl)
  have hA23 := hx69.2 _ _ hA23 (jnot_of rfl)
  have hA31 := hx69.2 _ _ hA31 (jnot_of rfl)
  have hA39 := hx69.2 _ _ hA39 (jnot_of rfl)
  have hA47 := hx69.2 _ _ hA47 (jnot_of rfl)
  refine J_aload_n dX4_init_72 rfl ?_
  refine J_iload_n dX4_init_73 rfl ?_
  refine Jc_putF jf_X4_45 jt_X4_0 rfl (fun _ h => by cases h; rfl) dX4_init_74 hq rfl rfl (Nat.le_of_ble_eq_true rfl) (fun _ h => by cases h) hW (fun V74 hq hW hx74 hB74 => ?_)
  have hq : V74 q = some (.inr (2, [.int x1, .int 0, .int 0, .null, .ref b7, .ref b15, .ref b23, .ref b31, .ref b39, .ref b47, .int 0, .int 0, .int 0, .int 0])) := hq
  have hkp := hkp.trans he.1 (jfa.one hB74)
  have he := he.trans (hx74.sub (jsub_of rfl))
  have hb7 := hb7.mono hx74.1
  have hb15 := hb15.mono hx74.1
  have hb23 := hb23.mono hx74.1
  have hb31 := hb31.mono hx74.1
  have hb39 := hb39.mono hx74.1
  have hb47 := hb47.mono hx74.1
  have hA7 := hx74.2 _ _ hA7 (jnot_of rfl)
  have hA15 := hx74.2 _ _ hA15 (jnot_of rfl)
  have hA23 := hx74.2 _ _ hA23 (jnot_of rfl)
  have hA31 := hx74.2 _ _ hA31 (jnot_of rfl)
  have hA39 := hx74.2 _ _ hA39 (jnot_of rfl)
  have hA47 := hx74.2 _ _ hA47 (jnot_of rfl)
  refine J_aload_n dX4_init_77 rfl ?_
  refine J_iload_n dX4_init_78 rfl ?_
  refine J_iconst (v := 3) dX4_init_79 (by decide) ?_
  refine J_icmp_ne (tgt := 88) dX4_init_80 (by decide) (fun c80 => ?_) (fun c80 => ?_)
  · refine J_bipush (v := 20) dX4_init_88 (by decide) ?_
    refine Jc_putF jf_X4_48 jt_X4_1 rfl (fun _ h => by cases h; rfl) dX4_init_90 hq rfl rfl (Nat.le_of_ble_eq_true rfl) (fun _ h => by cases h) hW (fun V90 hq hW hx90 hB90 => ?_)
    have hq : V90 q = some (.inr (2, [.int x1, _, .int 0, .null, .ref b7, .ref b15, .ref b23, .ref b31, .ref b39, .ref b47, .int 0, .int 0, .int 0, .int 0])) := hq
    have hkp := hkp.trans he.1 (jfa.one hB90)
    have he := he.trans (hx90.sub (jsub_of rfl))
    have hb7 := hb7.mono hx90.1
    have hb15 := hb15.mono hx90.1
    have hb23 := hb23.mono hx90.1
    have hb31 := hb31.mono hx90.1
    have hb39 := hb39.mono hx90.1
    have hb47 := hb47.mono hx90.1
    have hA7 := hx90.2 _ _ hA7 (jnot_of rfl)
    have hA15 := hx90.2 _ _ hA15 (jnot_of rfl)
    have hA23 := hx90.2 _ _ hA23 (jnot_of rfl)
    have hA31 := hx90.2 _ _ hA31 (jnot_of rfl)
    have hA39 := hx90.2 _ _ hA39 (jnot_of rfl)
    have hA47 := hx90.2 _ _ hA47 (jnot_of rfl)
    refine J_aload_n dX4_init_93 rfl ?_
    refine J_iconst (v := 2) dX4_init_94 (by decide) ?_
    refine J_aload_n dX4_init_95 rfl ?_
    refine J_get jf_X4_48 dX4_init_96 hq rfl ?_
    refine J_imul dX4_init_99 ?_
    refine J_iconst (v := 1) dX4_init_100 (by decide) ?_
    refine J_iadd dX4_init_101 ?_
    refine Jc_putF jf_X4_51 jt_X4_2 rfl (fun _ h => by cases h; rfl) dX4_init_102 hq rfl rfl (Nat.le_of_ble_eq_true rfl) (fun _ h => by cases h) hW (fun V102 hq hW hx102 hB102 => ?_)
    have hq : V102 q = some (.inr (2, [.int x1, _, _, .null, .ref b7, .ref b15, .ref b23, .ref b31, .ref b39, .ref b47, .int 0, .int 0, .int 0, .int 0])) := hq
    have hkp := hkp.trans he.1 (jfa.one hB102)
    have he := he.trans (hx102.sub (jsub_of rfl))
    have hb7 := hb7.mono hx102.1
    have hb15 := hb15.mono hx102.1
    have hb23 := hb23.mono hx102.1
    have hb31 := hb31.mono hx102.1
    have hb39 := hb39.mono hx102.1
    have hb47 := hb47.mono hx102.1
    have hA7 := hx102.2 _ _ hA7 (jnot_of rfl)
    have hA15 := hx102.2 _ _ hA15 (jnot_of rfl)
    have hA23 := hx102.2 _ _ hA23 (jnot_of rfl)
    have hA31 := hx102.2 _ _ hA31 (jnot_of rfl)
    have hA39 := hx102.2 _ _ hA39 (jnot_of rfl)
    have hA47 := hx102.2 _ _ hA47 (jnot_of rfl)
    refine J_aload_n dX4_init_105 rfl ?_
    refine J_iload_n dX4_init_106 rfl ?_
    refine J_iconst (v := 3) dX4_init_107 (by decide) ?_
    refine J_icmp_ne (tgt := 128) dX4_init_108 (by decide) (fun c108 => ?_) (fun c108 => absurd c108 c80)
    refine J_aload_n dX4_init_128 rfl ?_
    refine J_get jf_X4_51 dX4_init_129 hq rfl ?_
    refine J_aload_n dX4_init_132 rfl ?_
    refine J_get jf_X4_51 dX4_init_133 hq rfl ?_
    refine J_imul dX4_init_136 ?_
    refine Jc_newax (atype := .boolean) (t := 2) (B := 15625) (x := .inl (fun _ => 0)) jw_ac_boolean rfl (fun _ h => by cases h) (by decide) dX4_init_137 (by decide) (by decide) (by decide) (fun _ _ => rfl) (fun hN => jok_zI rfl (by decide) (by decide) (fun m h => by cases h <;> rfl) hN) (by decide) (by decide) hW (fun b137 V137 hn137 hb137 hk137 hW hx137 hA137 => ?_)
    have hz137 := he.1.none hn137
    have hkp := hkp.trans he.1 (jfa.new hk137)
    have he := he.trans (hx137.sub (jsub_of rfl))
    have hb7 := hb7.mono hx137.1
    have hb15 := hb15.mono hx137.1
    have hb23 := hb23.mono hx137.1
    have hb31 := hb31.mono hx137.1
    have hb39 := hb39.mono hx137.1
    have hb47 := hb47.mono hx137.1
    have hq := hk137 _ _ hq
    have hA7 := hk137 _ _ hA7
    have hA15 := hk137 _ _ hA15
    have hA23 := hk137 _ _ hA23
    have hA31 := hk137 _ _ hA31
    have hA39 := hk137 _ _ hA39
    have hA47 := hk137 _ _ hA47
    refine Jc_putF jf_X4_54 jt_X4_3 rfl (fun _ h => by cases h; rfl) dX4_init_139 hq rfl rfl (Nat.le_of_ble_eq_true rfl) (fun _ h => by cases h) hW (fun V139 hq hW hx139 hB139 => ?_)
    have hq : V139 q = some (.inr (2, [.int x1, _, _, .ref b137, .ref b7, .ref b15, .ref b23, .ref b31, .ref b39, .ref b47, .int 0, .int 0, .int 0, .int 0])) := hq
    have hkp := hkp.trans he.1 (jfa.one hB139)
    have he := he.trans (hx139.sub (jsub_of rfl))
    have hb7 := hb7.mono hx139.1
    have hb15 := hb15.mono hx139.1
    have hb23 := hb23.mono hx139.1
    have hb31 := hb31.mono hx139.1
    have hb39 := hb39.mono hx139.1
    have hb47 := hb47.mono hx139.1
    have hb137 := hb137.mono hx139.1
    have hA7 := hx139.2 _ _ hA7 (jnot_of rfl)
    have hA15 := hx139.2 _ _ hA15 (jnot_of rfl)
    have hA23 := hx139.2 _ _ hA23 (jnot_of rfl)
    have hA31 := hx139.2 _ _ hA31 (jnot_of rfl)
    have hA39 := hx139.2 _ _ hA39 (jnot_of rfl)
    have hA47 := hx139.2 _ _ hA47 (jnot_of rfl)
    have hA137 := hx139.2 _ _ hA137 (jnot_of rfl)
    have hW := hW.fin hq (jokO_cons ⟨_, rfl, (j_rng _).1, (j_rng _).2⟩ (jokO_cons ⟨_, rfl, by first | decide | assumption | omega, by first | decide | assumption | omega⟩ (jokO_cons ⟨_, rfl, (j_rng _).1, (j_rng _).2⟩ (jokO_cons ⟨_, rfl, hb137⟩ (jokO_cons ⟨_, rfl, hb7⟩ (jokO_cons ⟨_, rfl, hb15⟩ (jokO_cons ⟨_, rfl, hb23⟩ (jokO_cons ⟨_, rfl, hb31⟩ (jokO_cons ⟨_, rfl, hb39⟩ (jokO_cons ⟨_, rfl, hb47⟩ (jokO_cons ⟨_, rfl, by first | decide | assumption | omega, by first | decide | assumption | omega⟩ (jokO_cons ⟨_, rfl, by first | decide | assumption | omega, by first | decide | assumption | omega⟩ (jokO_cons ⟨_, rfl, (j_rng _).1, (j_rng _).2⟩ (jokO_cons ⟨_, rfl, by first | decide | assumption | omega, by first | decide | assumption | omega⟩ (jokO_nil)))))))))))))))
    have hq0 : jis _ (.inr 2) q := ⟨_, hq, rfl⟩
    obtain ⟨fsq, hOq, hFq3, hFq4, hFq5, hFq6, hFq7, hFq8, hFq9⟩ : ∃ fs : List Value, V139 q = some (.inr (2, fs)) ∧ fs[3]? = some (.ref b137) ∧ fs[4]? = some (.ref b7) ∧ fs[5]? = some (.ref b15) ∧ fs[6]? = some (.ref b23) ∧ fs[7]? = some (.ref b31) ∧ fs[8]? = some (.ref b39) ∧ fs[9]? = some (.ref b47) := ⟨_, hq, rfl, rfl, rfl, rfl, rfl, rfl, rfl⟩
    have hKq : jokO V139 (jFs 2) fsq := hW _ _ (fun h => h) hOq
    have hn3 : ¬ x1.toInt = 3 := fun z => c80 (jI_inj.mp (show x1.toInt = (3 : Int32).toInt from z))
    have hjR : jRg x1.toInt = 20 := if_neg hn3
    have hjL : jLg x1.toInt = 1681 := if_neg hn3
    refine w_X4_init_t d V139 q x1 b7 b39 b47 (fun _ => 0) (fun _ => 0) (fun _ => 0) _ (by omega) hW hq0 ⟨_, hOq, hFq4⟩ ⟨_, hOq, hFq8⟩ ⟨_, hOq, hFq9⟩ hA7 hA39 hA47 (fun r V h => ?_)
    obtain ⟨⟨hW2, hx2, hr⟩, ⟨WC2, FO2, RN2, w1, w2, w3, w4, w5, w6, w7⟩, hfp⟩ := h
    refine ⟨hr, hW2, he.freshL (fun a ha => ?_) hfp, hq0.mono hx2.1, jtyn.mk hz137 hz7 hz15 hz23 hz31 hz39 hz47 hq rfl rfl rfl rfl rfl rfl rfl rfl rfl rfl rfl rfl rfl (by rw [hjR]; rfl) (by rw [hjR]; rfl) (by rw [hjL]; rfl) hA137 hA7 hA15 hA23 hA31 hA39 hA47 hkp hfp w1 w2 w3 w4 w5 w6 w7⟩
    simp only [List.mem_cons, List.not_mem_nil, or_false] at ha
    rcases ha with z | z | z
    · rw [z]; exact hz7
    · rw [z]; exact hz39
    · rw [z]; exact hz47
  · refine J_bipush (v := 12) dX4_init_83 (by decide) ?_
    refine J_goto (tgt := 90) dX4_init_85 (by decide) ?_
    refine Jc_putF jf_X4_48 jt_X4_1 rfl (fun _ h => by cases h; rfl) dX4_init_90 hq rfl rfl (Nat.le_of_ble_eq_true rfl) (fun _ h => by cases h) hW (fun V90 hq hW hx90 hB90 => ?_)
    have hq : V90 q = some (.inr (2, [.int x1, _, .int 0, .null, .ref b7, .ref b15, .ref b23, .ref b31, .ref b39, .ref b47, .int 0, .int 0, .int 0, .int 0])) := hq
    have hkp := hkp.trans he.1 (jfa.one hB90)
    have he := he.trans (hx90.sub (jsub_of rfl))
    have hb7 := hb7.mono hx90.1
    have hb15 := hb15.mono hx90.1
    have hb23 := hb23.mono hx90.1
    have hb31 := hb31.mono hx90.1
    have hb39 := hb39.mono hx90.1
    have hb47 := hb47.mono hx90.1
    have hA7 := hx90.2 _ _ hA7 (jnot_of rfl)
    have hA15 := hx90.2 _ _ hA15 (jnot_of rfl)
    have hA23 := hx90.2 _ _ hA23 (jnot_of rfl)
    have hA31 := hx90.2 _ _ hA31 (jnot_of rfl)
    have hA39 := hx90.2 _ _ hA39 (jnot_of rfl)
    have hA47 := hx90.2 _ _ hA47 (jnot_of rfl)
    refine J_aload_n dX4_init_93 rfl ?_
    refine J_iconst (v := 2) dX4_init_94 (by decide) ?_
    refine J_aload_n dX4_init_95 rfl ?_
    refine J_get jf_X4_48 dX4_init_96 hq rfl ?_
    refine J_imul dX4_init_99 ?_
    refine J_iconst (v := 1) dX4_init_100 (by decide) ?_
    refine J_iadd dX4_init_101 ?_
    refine Jc_putF jf_X4_51 jt_X4_2 rfl (fun _ h => by cases h; rfl) dX4_init_102 hq rfl rfl (Nat.le_of_ble_eq_true rfl) (fun _ h => by cases h) hW (fun V102 hq hW hx102 hB102 => ?_)
    have hq : V102 q = some (.inr (2, [.int x1, _, _, .null, .ref b7, .ref b15, .ref b23, .ref b31, .ref b39, .ref b47, .int 0, .int 0, .int 0, .int 0])) := hq
    have hkp := hkp.trans he.1 (jfa.one hB102)
    have he := he.trans (hx102.sub (jsub_of rfl))
    have hb7 := hb7.mono hx102.1
    have hb15 := hb15.mono hx102.1
    have hb23 := hb23.mono hx102.1
    have hb31 := hb31.mono hx102.1
    have hb39 := hb39.mono hx102.1
    have hb47 := hb47.mono hx102.1
    have hA7 := hx102.2 _ _ hA7 (jnot_of rfl)
    have hA15 := hx102.2 _ _ hA15 (jnot_of rfl)
    have hA23 := hx102.2 _ _ hA23 (jnot_of rfl)
    have hA31 := hx102.2 _ _ hA31 (jnot_of rfl)
    have hA39 := hx102.2 _ _ hA39 (jnot_of rfl)
    have hA47 := hx102.2 _ _ hA47 (jnot_of rfl)
    refine J_aload_n dX4_init_105 rfl ?_
    refine J_iload_n dX4_init_106 rfl ?_
    refine J_iconst (v := 3) dX4_init_107 (by decide) ?_
    refine J_icmp_ne (tgt := 128) dX4_init_108 (by decide) (fun c108 => absurd c108 (fun z => z c80)) (fun c108 => ?_)
    refine J_aload_n dX4_init_111 rfl ?_
    refine J_get jf_X4_51 dX4_init_112 hq rfl ?_
    refine J_aload_n dX4_init_115 rfl ?_
    refine J_get jf_X4_51 dX4_init_116 hq rfl ?_
    refine J_imul dX4_init_119 ?_
    refine J_aload_n dX4_init_120 rfl ?_
    refine J_get jf_X4_51 dX4_init_121 hq rfl ?_
    refine J_imul dX4_init_124 ?_
    refine J_goto (tgt := 137) dX4_init_125 (by decide) ?_
    refine Jc_newax (atype := .boolean) (t := 2) (B := 15625) (x := .inl (fun _ => 0)) jw_ac_boolean rfl (fun _ h => by cases h) (by decide) dX4_init_137 (by decide) (by decide) (by decide) (fun _ _ => rfl) (fun hN => jok_zI rfl (by decide) (by decide) (fun m h => by cases h <;> rfl) hN) (by decide) (by decide) hW (fun b137 V137 hn137 hb137 hk137 hW hx137 hA137 => ?_)
    have hz137 := he.1.none hn137
    have hkp := hkp.trans he.1 (jfa.new hk137)
    have he := he.trans (hx137.sub (jsub_of rfl))
    have hb7 := hb7.mono hx137.1
    have hb15 := hb15.mono hx137.1
    have hb23 := hb23.mono hx137.1
    have hb31 := hb31.mono hx137.1
    have hb39 := hb39.mono hx137.1
    have hb47 := hb47.mono hx137.1
    have hq := hk137 _ _ hq
    have hA7 := hk137 _ _ hA7
    have hA15 := hk137 _ _ hA15
    have hA23 := hk137 _ _ hA23
    have hA31 := hk137 _ _ hA31
    have hA39 := hk137 _ _ hA39
    have hA47 := hk137 _ _ hA47
    refine Jc_putF jf_X4_54 jt_X4_3 rfl (fun _ h => by cases h; rfl) dX4_init_139 hq rfl rfl (Nat.le_of_ble_eq_true rfl) (fun _ h => by cases h) hW (fun V139 hq hW hx139 hB139 => ?_)
    have hq : V139 q = some (.inr (2, [.int x1, _, _, .ref b137, .ref b7, .ref b15, .ref b23, .ref b31, .ref b39, .ref b47, .int 0, .int 0, .int 0, .int 0])) := hq
    have hkp := hkp.trans he.1 (jfa.one hB139)
    have he := he.trans (hx139.sub (jsub_of rfl))
    have hb7 := hb7.mono hx139.1
    have hb15 := hb15.mono hx139.1
    have hb23 := hb23.mono hx139.1
    have hb31 := hb31.mono hx139.1
    have hb39 := hb39.mono hx139.1
    have hb47 := hb47.mono hx139.1
    have hb137 := hb137.mono hx139.1
    have hA7 := hx139.2 _ _ hA7 (jnot_of rfl)
    have hA15 := hx139.2 _ _ hA15 (jnot_of rfl)
    have hA23 := hx139.2 _ _ hA23 (jnot_of rfl)
    have hA31 := hx139.2 _ _ hA31 (jnot_of rfl)
    have hA39 := hx139.2 _ _ hA39 (jnot_of rfl)
    have hA47 := hx139.2 _ _ hA47 (jnot_of rfl)
    have hA137 := hx139.2 _ _ hA137 (jnot_of rfl)
    have hW := hW.fin hq (jokO_cons ⟨_, rfl, (j_rng _).1, (j_rng _).2⟩ (jokO_cons ⟨_, rfl, by first | decide | assumption | omega, by first | decide | assumption | omega⟩ (jokO_cons ⟨_, rfl, (j_rng _).1, (j_rng _).2⟩ (jokO_cons ⟨_, rfl, hb137⟩ (jokO_cons ⟨_, rfl, hb7⟩ (jokO_cons ⟨_, rfl, hb15⟩ (jokO_cons ⟨_, rfl, hb23⟩ (jokO_cons ⟨_, rfl, hb31⟩ (jokO_cons ⟨_, rfl, hb39⟩ (jokO_cons ⟨_, rfl, hb47⟩ (jokO_cons ⟨_, rfl, by first | decide | assumption | omega, by first | decide | assumption | omega⟩ (jokO_cons ⟨_, rfl, by first | decide | assumption | omega, by first | decide | assumption | omega⟩ (jokO_cons ⟨_, rfl, (j_rng _).1, (j_rng _).2⟩ (jokO_cons ⟨_, rfl, by first | decide | assumption | omega, by first | decide | assumption | omega⟩ (jokO_nil)))))))))))))))
    have hq0 : jis _ (.inr 2) q := ⟨_, hq, rfl⟩
    obtain ⟨fsq, hOq, hFq3, hFq4, hFq5, hFq6, hFq7, hFq8, hFq9⟩ : ∃ fs : List Value, V139 q = some (.inr (2, fs)) ∧ fs[3]? = some (.ref b137) ∧ fs[4]? = some (.ref b7) ∧ fs[5]? = some (.ref b15) ∧ fs[6]? = some (.ref b23) ∧ fs[7]? = some (.ref b31) ∧ fs[8]? = some (.ref b39) ∧ fs[9]? = some (.ref b47) := ⟨_, hq, rfl, rfl, rfl, rfl, rfl, rfl, rfl⟩
    have hKq : jokO V139 (jFs 2) fsq := hW _ _ (fun h => h) hOq
    have hn3 : x1.toInt = 3 := by rw [c80]; rfl
    have hjR : jRg x1.toInt = 12 := if_pos hn3
    have hjL : jLg x1.toInt = 15625 := if_pos hn3
    refine w_X4_init_t d V139 q x1 b7 b39 b47 (fun _ => 0) (fun _ => 0) (fun _ => 0) _ (by omega) hW hq0 ⟨_, hOq, hFq4⟩ ⟨_, hOq, hFq8⟩ ⟨_, hOq, hFq9⟩ hA7 hA39 hA47 (fun r V h => ?_)
    obtain ⟨⟨hW2, hx2, hr⟩, ⟨WC2, FO2, RN2, w1, w2, w3, w4, w5, w6, w7⟩, hfp⟩ := h
    refine ⟨hr, hW2, he.freshL (fun a ha => ?_) hfp, hq0.mono hx2.1, jtyn.mk hz137 hz7 hz15 hz23 hz31 hz39 hz47 hq rfl rfl rfl rfl rfl rfl rfl rfl rfl rfl rfl rfl rfl (by rw [hjR]; rfl) (by rw [hjR]; rfl) (by rw [hjL]; rfl) hA137 hA7 hA15 hA23 hA31 hA39 hA47 hkp hfp w1 w2 w3 w4 w5 w6 w7⟩
    simp only [List.mem_cons, List.not_mem_nil, or_false] at ha
    rcases ha with z | z | z
    · rw [z]; exact hz7
    · rw [z]; exact hz39
    · rw [z]; exact hz47
