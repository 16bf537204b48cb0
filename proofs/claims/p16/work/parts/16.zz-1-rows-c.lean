set_option maxRecDepth 100000 in
set_option maxHeartbeats 4000000 in
theorem w_X7_init_t {tS : jTS} (d : Nat) (V0 : jH) (q : Nat)  (hd : 1 ≤ d) (hW : WTx (fun a => False ∨ a = q) V0) (hq : V0 q = some (.inr (5, [.int 0, .null, .null, .null, .null, .int 0, .null, .null, .null, .null, .null, .null, .null, .null, .null, .null, .null, .null, .null, .null, .null, .null, .int 0, .int 0, .int 0, .null, .int 0, .int 0, .int 0, .null, .null, .null, .null, .null])))   : jTot tS mX7_init d [.ref q] V0 26 101822 (fun r V => r = none ∧ WTx (fun _ => False) V ∧ jeff [.inr 5] V0 V ∧ jis V (.inr 5) q ∧ jfI V q 5 0 0 ∧ jfI V q 5 23 2 ∧ jfI V q 5 24 2 ∧ (jmx V q ∧ jRM V q ∧ jRF V q)) := by
  refine jTot.of_J [some (.ref q)] moX7_init (Nat.le_of_ble_eq_true rfl) rfl ?_
  have he : jeff [.inr 5] V0 V0 := jeff.refl _ _
  refine J_aload_n dX7_init_0 rfl ?_
  refine J_objInit jw_ml_X7_1 jw_oi2 jw_oi3 dX7_init_1 (by omega) (Nat.le_of_ble_eq_true rfl) ?_
  refine J_aload_n dX7_init_4 rfl ?_
  refine J_bipush (v := 16) dX7_init_5 (by decide) ?_
  refine Jc_newa (atype := .int) (t := 14) (B := 16) (x := .inl (fun _ => 0)) jw_ac_int rfl (fun _ h => by cases h) (by decide) dX7_init_7 (by decide) (by decide) (by decide) (fun _ _ => rfl) (fun hN => jok_zI rfl (by decide) (by decide) (fun m h => by cases h <;> rfl) hN) (by decide) (by decide) hW (fun b7 V7 hn7 hb7 hk7 hW hx7 => ?_)
  have hz7 := he.1.none hn7
  have he := he.trans (hx7.sub (jsub_of rfl))
  have hq := hk7 _ _ hq
  refine Jc_putF jf_X7_7 jt_X7_1 rfl (fun _ h => by cases h; rfl) dX7_init_9 hq rfl rfl (Nat.le_of_ble_eq_true rfl) (fun _ h => by cases h) hW (fun V9 hq hW hx9 hB9 => ?_)
  have hq : V9 q = some (.inr (5, [.int 0, .ref b7, .null, .null, .null, .int 0, .null, .null, .null, .null, .null, .null, .null, .null, .null, .null, .null, .null, .null, .null, .null, .null, .int 0, .int 0, .int 0, .null, .int 0, .int 0, .int 0, .null, .null, .null, .null, .null])) := hq
  have he := he.trans (hx9.sub (jsub_of rfl))
  have hb7 := hb7.mono hx9.1
  refine J_aload_n dX7_init_12 rfl ?_
  refine J_bipush (v := 16) dX7_init_13 (by decide) ?_
  refine Jc_newa (atype := .int) (t := 15) (B := 16) (x := .inl (fun _ => 0)) jw_ac_int rfl (fun _ h => by cases h) (by decide) dX7_init_15 (by decide) (by decide) (by decide) (fun _ _ => rfl) (fun hN => jok_zI rfl (by decide) (by decide) (fun m h => by cases h <;> rfl) hN) (by decide) (by decide) hW (fun b15 V15 hn15 hb15 hk15 hW hx15 => ?_)
  have hz15 := he.1.none hn15
  have he := he.trans (hx15.sub (jsub_of rfl))
  have hb7 := hb7.mono hx15.1
  have hq := hk15 _ _ hq
  refine Jc_putF jf_X7_13 jt_X7_2 rfl (fun _ h => by cases h; rfl) dX7_init_17 hq rfl rfl (Nat.le_of_ble_eq_true rfl) (fun _ h => by cases h) hW (fun V17 hq hW hx17 hB17 => ?_)
  have hq : V17 q = some (.inr (5, [.int 0, .ref b7, .ref b15, .null, .null, .int 0, .null, .null, .null, .null, .null, .null, .null, .null, .null, .null, .null, .null, .null, .null, .null, .null, .int 0, .int 0, .int 0, .null, .int 0, .int 0, .int 0, .null, .null, .null, .null, .null])) := hq
  have he := he.trans (hx17.sub (jsub_of rfl))
  have hb7 := hb7.mono hx17.1
  have hb15 := hb15.mono hx17.1
  refine J_aload_n dX7_init_20 rfl ?_
  refine J_sipush (v := 960) dX7_init_21 (by decide) ?_
  refine Jc_newa (atype := .int) (t := 16) (B := 960) (x := .inl (fun _ => 0)) jw_ac_int rfl (fun _ h => by cases h) (by decide) dX7_init_24 (by decide) (by decide) (by decide) (fun _ _ => rfl) (fun hN => jok_zI rfl (by decide) (by decide) (fun m h => by cases h <;> rfl) hN) (by decide) (by decide) hW (fun b24 V24 hn24 hb24 hk24 hW hx24 => ?_)
  have hz24 := he.1.none hn24
  have he := he.trans (hx24.sub (jsub_of rfl))
  have hb7 := hb7.mono hx24.1
  have hb15 := hb15.mono hx24.1
  have hq := hk24 _ _ hq
  refine Jc_putF jf_X7_16 jt_X7_3 rfl (fun _ h => by cases h; rfl) dX7_init_26 hq rfl rfl (Nat.le_of_ble_eq_true rfl) (fun _ h => by cases h) hW (fun V26 hq hW hx26 hB26 => ?_)
  have hq : V26 q = some (.inr (5, [.int 0, .ref b7, .ref b15, .ref b24, .null, .int 0, .null, .null, .null, .null, .null, .null, .null, .null, .null, .null, .null, .null, .null, .null, .null, .null, .int 0, .int 0, .int 0, .null, .int 0, .int 0, .int 0, .null, .null, .null, .null, .null])) := hq
  have he := he.trans (hx26.sub (jsub_of rfl))
  have hb7 := hb7.mono hx26.1
  have hb15 := hb15.mono hx26.1
  have hb24 := hb24.mono hx26.1
  refine J_aload_n dX7_init_29 rfl ?_
  refine J_bipush (v := 120) dX7_init_30 (by decide) ?_
  refine Jc_newa (atype := .int) (t := 17) (B := 120) (x := .inl (fun _ => 0)) jw_ac_int rfl (fun _ h => by cases h) (by decide) dX7_init_32 (by decide) (by decide) (by decide) (fun _ _ => rfl) (fun hN => jok_zI rfl (by decide) (by decide) (fun m h => by cases h <;> rfl) hN) (by decide) (by decide) hW (fun b32 V32 hn32 hb32 hk32 hW hx32 => ?_)
  have hz32 := he.1.none hn32
  have he := he.trans (hx32.sub (jsub_of rfl))
  have hb7 := hb7.mono hx32.1
  have hb15 := hb15.mono hx32.1
  have hb24 := hb24.mono hx32.1
  have hq := hk32 _ _ hq
  refine Jc_putF jf_X7_19 jt_X7_4 rfl (fun _ h => by cases h; rfl) dX7_init_34 hq rfl rfl (Nat.le_of_ble_eq_true rfl) (fun _ h => by cases h) hW (fun V34 hq hW hx34 hB34 => ?_)
  have hq : V34 q = some (.inr (5, [.int 0, .ref b7, .ref b15, .ref b24, .ref b32, .int 0, .null, .null, .null, .null, .null, .null, .null, .null, .null, .null, .null, .null, .null, .null, .null, .null, .int 0, .int 0, .int 0, .null, .int 0, .int 0, .int 0, .null, .null, .null, .null, .null])) := hq
  have he := he.trans (hx34.sub (jsub_of rfl))
  have hb7 := hb7.mono hx34.1
  have hb15 := hb15.mono hx34.1
  have hb24 := hb24.mono hx34.1
  have hb32 := hb32.mono hx34.1
  refine J_aload_n dX7_init_37 rfl ?_
  refine J_bipush (v := 121) dX7_init_38 (by decide) ?_
  refine Jc_newa (atype := .int) (t := 18) (B := 121) (x := .inl (fun _ => 0)) jw_ac_int rfl (fun _ h => by cases h) (by decide) dX7_init_40 (by decide) (by decide) (by decide) (fun _ _ => rfl) (fun hN => jok_zI rfl (by decide) (by decide) (fun m h => by cases h <;> rfl) hN) (by decide) (by decide) hW (fun b40 V40 hn40 hb40 hk40 hW hx40 => ?_)
  have hz40 := he.1.none hn40
  have he := he.trans (hx40.sub (jsub_of rfl))
  have hb7 := hb7.mono hx40.1
  have hb15 := hb15.mono hx40.1
  have hb24 := hb24.mono hx40.1
  have hb32 := hb32.mono hx40.1
  have hq := hk40 _ _ hq
  refine Jc_putF jf_X7_22 jt_X7_6 rfl (fun _ h => by cases h; rfl) dX7_init_42 hq rfl rfl (Nat.le_of_ble_eq_true rfl) (fun _ h => by cases h) hW (fun V42 hq hW hx42 hB42 => ?_)
  have hq : V42 q = some (.inr (5, [.int 0, .ref b7, .ref b15, .ref b24, .ref b32, .int 0, .ref b40, .null, .null, .null, .null, .null, .null, .null, .null, .null, .null, .null, .null, .null, .null, .null, .int 0, .int 0, .int 0, .null, .int 0, .int 0, .int 0, .null, .null, .null, .null, .null])) := hq
  have he := he.trans (hx42.sub (jsub_of rfl))
  have hb7 := hb7.mono hx42.1
  have hb15 := hb15.mono hx42.1
  have hb24 := hb24.mono hx42.1
  have hb32 := hb32.mono hx42.1
  have hb40 := hb40.mono hx42.1
  refine J_aload_n dX7_init_45 rfl ?_
  refine J_bipush (v := 121) dX7_init_46 (by decide) ?_
  refine Jc_newa (atype := .int) (t := 19) (B := 121) (x := .inl (fun _ => 0)) jw_ac_int rfl (fun _ h => by cases h) (by decide) dX7_init_48 (by decide) (by decide) (by decide) (fun _ _ => rfl) (fun hN => jok_zI rfl (by decide) (by decide) (fun m h => by cases h <;> rfl) hN) (by decide) (by decide) hW (fun b48 V48 hn48 hb48 hk48 hW hx48 => ?_)
  have hz48 := he.1.none hn48
  have he := he.trans (hx48.sub (jsub_of rfl))
  have hb7 := hb7.mono hx48.1
  have hb15 := hb15.mono hx48.1
  have hb24 := hb24.mono hx48.1
  have hb32 := hb32.mono hx48.1
  have hb40 := hb40.mono hx48.1
  have hq := hk48 _ _ hq
  refine Jc_putF jf_X7_25 jt_X7_7 rfl (fun _ h => by cases h; rfl) dX7_init_50 hq rfl rfl (Nat.le_of_ble_eq_true rfl) (fun _ h => by cases h) hW (fun V50 hq hW hx50 hB50 => ?_)
  have hq : V50 q = some (.inr (5, [.int 0, .ref b7, .ref b15, .ref b24, .ref b32, .int 0, .ref b40, .ref b48, .null, .null, .null, .null, .null, .null, .null, .null, .null, .null, .null, .null, .null, .null, .int 0, .int 0, .int 0, .null, .int 0, .int 0, .int 0, .null, .null, .null, .null, .null])) := hq
  have he := he.trans (hx50.sub (jsub_of rfl))
  have hb7 := hb7.mono hx50.1
  have hb15 := hb15.mono hx50.1
  have hb24 := hb24.mono hx50.1
  have hb32 := hb32.mono hx50.1
  have hb40 := hb40.mono hx50.1
  have hb48 := hb48.mono hx50.1
  refine J_aload_n dX7_init_53 rfl ?_
  refine J_bipush (v := 121) dX7_init_54 (by decide) ?_
  refine Jc_newa (atype := .int) (t := 20) (B := 121) (x := .inl (fun _ => 0)) jw_ac_int rfl (fun _ h => by cases h) (by decide) dX7_init_56 (by decide) (by decide) (by decide) (fun _ _ => rfl) (fun hN => jok_zI rfl (by decide) (by decide) (fun m h => by cases h <;> rfl) hN) (by decide) (by decide) hW (fun b56 V56 hn56 hb56 hk56 hW hx56 => ?_)
  have hz56 := he.1.none hn56
  have he := he.trans (hx56.sub (jsub_of rfl))
  have hb7 := hb7.mono hx56.1
  have hb15 := hb15.mono hx56.1
  have hb24 := hb24.mono hx56.1
  have hb32 := hb32.mono hx56.1
  have hb40 := hb40.mono hx56.1
  have hb48 := hb48.mono hx56.1
  have hq := hk56 _ _ hq
  refine Jc_putF jf_X7_28 jt_X7_8 rfl (fun _ h => by cases h; rfl) dX7_init_58 hq rfl rfl (Nat.le_of_ble_eq_true rfl) (fun _ h => by cases h) hW (fun V58 hq hW hx58 hB58 => ?_)
  have hq : V58 q = some (.inr (5, [.int 0, .ref b7, .ref b15, .ref b24, .ref b32, .int 0, .ref b40, .ref b48, .ref b56, .null, .null, .null, .null, .null, .null, .null, .null, .null, .null, .null, .null, .null, .int 0, .int 0, .int 0, .null, .int 0, .int 0, .int 0, .null, .null, .null, .null, .null])) := hq
  have he := he.trans (hx58.sub (jsub_of rfl))
  have hb7 := hb7.mono hx58.1
  have hb15 := hb15.mono hx58.1
  have hb24 := hb24.mono hx58.1
  have hb32 := hb32.mono hx58.1
  have hb40 := hb40.mono hx58.1
  have hb48 := hb48.mono hx58.1
  have hb56 := hb56.mono hx58.1
  refine J_aload_n dX7_init_61 rfl ?_
  refine J_bipush (v := 60) dX7_init_62 (by decide) ?_
  refine Jc_newa (atype := .int) (t := 21) (B := 60) (x := .inl (fun _ => 0)) jw_ac_int rfl (fun _ h => by cases h) (by decide) dX7_init_64 (by decide) (by decide) (by decide) (fun _ _ => rfl) (fun hN => jok_zI rfl (by decide) (by decide) (fun m h => by cases h <;> rfl) hN) (by decide) (by decide) hW (fun b64 V64 hn64 hb64 hk64 hW hx64 => ?_)
  have hz64 := he.1.none hn64
  have he := he.trans (hx64.sub (jsub_of rfl))
  have hb7 := hb7.mono hx64.1
  have hb15 := hb15.mono hx64.1
  have hb24 := hb24.mono hx64.1
  have hb32 := hb32.mono hx64.1
  have hb40 := hb40.mono hx64.1
  have hb48 := hb48.mono hx64.1
  have hb56 := hb56.mono hx64.1
  have hq := hk64 _ _ hq
  refine Jc_putF jf_X7_31 jt_X7_9 rfl (fun _ h => by cases h; rfl) dX7_init_66 hq rfl rfl (Nat.le_of_ble_eq_true rfl) (fun _ h => by cases h) hW (fun V66 hq hW hx66 hB66 => ?_)
  have hq : V66 q = some (.inr (5, [.int 0, .ref b7, .ref b15, .ref b24, .ref b32, .int 0, .ref b40, .ref b48, .ref b56, .ref b64, .null, .null, .null, .null, .null, .null, .null, .null, .null, .null, .null, .null, .int 0, .int 0, .int 0, .null, .int 0, .int 0, .int 0, .null, .null, .null, .null, .null])) := hq
  have he := he.trans (hx66.sub (jsub_of rfl))
  have hb7 := hb7.mono hx66.1
  have hb15 := hb15.mono hx66.1
  have hb24 := hb24.mono hx66.1
  have hb32 := hb32.mono hx66.1
  have hb40 := hb40.mono hx66.1
  have hb48 := hb48.mono hx66.1
  have hb56 := hb56.mono hx66.1
  have hb64 := hb64.mono hx66.1
  refine J_aload_n dX7_init_69 rfl ?_
  refine J_bipush (v := 60) dX7_init_70 (by decide) ?_
  refine Jc_newa (atype := .int) (t := 22) (B := 60) (x := .inl (fun _ => 0)) jw_ac_int rfl (fun _ h => by cases h) (by decide) dX7_init_72 (by decide) (by decide) (by decide) (fun _ _ => rfl) (fun hN => jok_zI rfl (by decide) (by decide) (fun m h => by cases h <;> rfl) hN) (by decide) (by decide) hW (fun b72 V72 hn72 hb72 hk72 hW hx72 => ?_)
  have hz72 := he.1.none hn72
  have he := he.trans (hx72.sub (jsub_of rfl))
  have hb7 := hb7.mono hx72.1
  have hb15 := hb15.mono hx72.1
  have hb24 := hb24.mono hx72.1
  have hb32 := hb32.mono hx72.1
  have hb40 := hb40.mono hx72.1
  have hb48 := hb48.mono hx72.1
  have hb56 := hb56.mono hx72.1
  have hb64 := hb64.mono hx72.1
  have hq := hk72 _ _ hq
  refine Jc_putF jf_X7_34 jt_X7_10 rfl (fun _ h => by cases h; rfl) dX7_init_74 hq rfl rfl (Nat.le_of_ble_eq_true rfl) (fun _ h => by cases h) hW (fun V74 hq hW hx74 hB74 => ?_)
  have hq : V74 q = some (.inr (5, [.int 0, .ref b7, .ref b15, .ref b24, .ref b32, .int 0, .ref b40, .ref b48, .ref b56, .ref b64, .ref b72, .null, .null, .null, .null, .null, .null, .null, .null, .null, .null, .null, .int 0, .int 0, .int 0, .null, .int 0, .int 0, .int 0, .null, .null, .null, .null, .null])) := hq
  have he := he.trans (hx74.sub (jsub_of rfl))
  have hb7 := hb7.mono hx74.1
  have hb15 := hb15.mono hx74.1
  have hb24 := hb24.mono hx74.1
  have hb32 := hb32.mono hx74.1
  have hb40 := hb40.mono hx74.1
  have hb48 := hb48.mono hx74.1
  have hb56 := hb56.mono hx74.1
  have hb64 := hb64.mono hx74.1
  have hb72 := hb72.mono hx74.1
  refine J_aload_n dX7_init_77 rfl ?_
  refine J_bipush (v := 84) dX7_init_78 (by decide) ?_
  refine Jc_newax (atype := .boolean) (t := 40) (B := 84) (x := .inl (fun _ => 0)) jw_ac_boolean rfl (fun _ h => by cases h) (by decide) dX7_init_80 (by decide) (by decide) (by decide) (fun _ _ => rfl) (fun hN => jok_zI rfl (by decide) (by decide) (fun m h => by cases h <;> rfl) hN) (by decide) (by decide) hW (fun b80 V80 hn80 hb80 hk80 hW hx80 hA80 => ?_)
  have hz80 := he.1.none hn80
  have he := he.trans (hx80.sub (jsub_of rfl))
  have hb7 := hb7.mono hx80.1
  have hb15 := hb15.mono hx80.1
  have hb24 := hb24.mono hx80.1
  have hb32 := hb32.mono hx80.1
  have hb40 := hb40.mono hx80.1
  have hb48 := hb48.mono hx80.1
  have hb56 := hb56.mono hx80.1
  have hb64 := hb64.mono hx80.1
  have hb72 := hb72.mono hx80.1
  have hq := hk80 _ _ hq
  have hA80 : V80 b80 = some (.inl (40, 84, .inl (fun _ => 0))) := hA80
  refine Jc_putF jf_X7_37 jt_X7_11 rfl (fun _ h => by cases h; rfl) dX7_init_82 hq rfl rfl (Nat.le_of_ble_eq_true rfl) (fun _ h => by cases h) hW (fun V82 hq hW hx82 hB82 => ?_)
  have hq : V82 q = some (.inr (5, [.int 0, .ref b7, .ref b15, .ref b24, .ref b32, .int 0, .ref b40, .ref b48, .ref b56, .ref b64, .ref b72, .ref b80, .null, .null, .null, .null, .null, .null, .null, .null, .null, .null, .int 0, .int 0, .int 0, .null, .int 0, .int 0, .int 0, .null, .null, .null, .null, .null])) := hq
  have he := he.trans (hx82.sub (jsub_of rfl))
  have hb7 := hb7.mono hx82.1
  have hb15 := hb15.mono hx82.1
  have hb24 := hb24.mono hx82.1
  have hb32 := hb32.mono hx82.1
  have hb40 := hb40.mono hx82.1
  have hb48 := hb48.mono hx82.1
  have hb56 := hb56.mono hx82.1
  have hb64 := hb64.mono hx82.1
  have hb72 := hb72.mono hx82.1
  have hb80 := hb80.mono hx82.1
  have hA80 := hx82.2 _ _ hA80 (jnot_of rfl)
  refine J_aload_n dX7_init_85 rfl ?_
  refine J_bipush (v := 84) dX7_init_86 (by decide) ?_
  refine Jc_newax (atype := .int) (t := 23) (B := 84) (x := .inl (fun _ => 0)) jw_ac_int rfl (fun _ h => by cases h) (by decide) dX7_init_88 (by decide) (by decide) (by decide) (fun _ _ => rfl) (fun hN => jok_zI rfl (by decide) (by decide) (fun m h => by cases h <;> rfl) hN) (by decide) (by decide) hW (fun b88 V88 hn88 hb88 hk88 hW hx88 hA88 => ?_)
  have hz88 := he.1.none hn88
  have he := he.trans (hx88.sub (jsub_of rfl))
  have hb7 := hb7.mono hx88.1
  have hb15 := hb15.mono hx88.1
  have hb24 := hb24.mono hx88.1
  have hb32 := hb32.mono hx88.1
  have hb40 := hb40.mono hx88.1
  have hb48 := hb48.mono hx88.1
  have hb56 := hb56.mono hx88.1
  have hb64 := hb64.mono hx88.1
  have hb72 := hb72.mono hx88.1
  have hb80 := hb80.mono hx88.1
  have hq := hk88 _ _ hq
  have hA80 := hk88 _ _ hA80
  have hA88 : V88 b88 = some (.inl (23, 84, .inl (fun _ => 0))) := hA88
  refine Jc_putF jf_X7_41 jt_X7_12 rfl (fun _ h => by cases h; rfl) dX7_init_90 hq rfl rfl (Nat.le_of_ble_eq_true rfl) (fun _ h => by cases h) hW (fun V90 hq hW hx90 hB90 => ?_)
  have hq : V90 q = some (.inr (5, [.int 0, .ref b7, .ref b15, .ref b24, .ref b32, .int 0, .ref b40, .ref b48, .ref b56, .ref b64, .ref b72, .ref b80, .ref b88, .null, .null, .null, .null, .null, .null, .null, .null, .null, .int 0, .int 0, .int 0, .null, .int 0, .int 0, .int 0, .null, .null, .null, .null, .null])) := hq
  have he := he.trans (hx90.sub (jsub_of rfl))
  have hb7 := hb7.mono hx90.1
  have hb15 := hb15.mono hx90.1
  have hb24 := hb24.mono hx90.1
  have hb32 := hb32.mono hx90.1
  have hb40 := hb40.mono hx90.1
  have hb48 := hb48.mono hx90.1
  have hb56 := hb56.mono hx90.1
  have hb64 := hb64.mono hx90.1
  have hb72 := hb72.mono hx90.1
  have hb80 := hb80.mono hx90.1
  have hb88 := hb88.mono hx90.1
  have hA80 := hx90.2 _ _ hA80 (jnot_of rfl)
  have hA88 := hx90.2 _ _ hA88 (jnot_of rfl)
  refine J_aload_n dX7_init_93 rfl ?_
  refine J_bipush (v := 84) dX7_init_94 (by decide) ?_
  refine Jc_newax (atype := .long) (t := 46) (B := 84) (x := .inr (.inl (fun _ => 0))) jw_ac_long rfl (fun _ h => by cases h) (by decide) dX7_init_96 (by decide) (by decide) (by decide) (fun _ _ => rfl) (fun hN => jok_zL rfl (fun m h => by cases h <;> rfl) hN) (by decide) (by decide) hW (fun b96 V96 hn96 hb96 hk96 hW hx96 hA96 => ?_)
  have hz96 := he.1.none hn96
  have he := he.trans (hx96.sub (jsub_of rfl))
  have hb7 := hb7.mono hx96.1
  have hb15 := hb15.mono hx96.1
  have hb24 := hb24.mono hx96.1
  have hb32 := hb32.mono hx96.1
  have hb40 := hb40.mono hx96.1
  have hb48 := hb48.mono hx96.1
  have hb56 := hb56.mono hx96.1
  have hb64 := hb64.mono hx96.1
  have hb72 := hb72.mono hx96.1
  have hb80 := hb80.mono hx96.1
  have hb88 := hb88.mono hx96.1
  have hq := hk96 _ _ hq
  have hA80 := hk96 _ _ hA80
  have hA88 := hk96 _ _ hA88
  have hA96 : V96 b96 = some (.inl (46, 84, .inr (.inl (fun _ => 0)))) := hA96
  refine Jc_putF jf_X7_44 jt_X7_13 rfl (fun _ h => by cases h; rfl) dX7_init_98 hq rfl rfl (Nat.le_of_ble_eq_true rfl) (fun _ h => by cases h) hW (fun V98 hq hW hx98 hB98 => ?_)
  have hq : V98 q = some (.inr (5, [.int 0, .ref b7, .ref b15, .ref b24, .ref b32, .int 0, .ref b40, .ref b48, .ref b56, .ref b64, .ref b72, .ref b80, .ref b88, .ref b96, .null, .null, .null, .null, .null, .null, .null, .null, .int 0, .int 0, .int 0, .null, .int 0, .int 0, .int 0, .null, .null, .null, .null, .null])) := hq
  have he := he.trans (hx98.sub (jsub_of rfl))
  have hb7 := hb7.mono hx98.1
  have hb15 := hb15.mono hx98.1
  have hb24 := hb24.mono hx98.1
  have hb32 := hb32.mono hx98.1
  have hb40 := hb40.mono hx98.1
  have hb48 := hb48.mono hx98.1
  have hb56 := hb56.mono hx98.1
  have hb64 := hb64.mono hx98.1
  have hb72 := hb72.mono hx98.1
  have hb80 := hb80.mono hx98.1
  have hb88 := hb88.mono hx98.1
  have hb96 := hb96.mono hx98.1
  have hA80 := hx98.2 _ _ hA80 (jnot_of rfl)
  have hA88 := hx98.2 _ _ hA88 (jnot_of rfl)
  have hA96 := hx98.2 _ _ hA96 (jnot_of rfl)
  refine J_aload_n dX7_init_101 rfl ?_
  refine J_bipush (v := 84) dX7_init_102 (by decide) ?_
  refine Jc_newax (atype := .int) (t := 24) (B := 84) (x := .inl (fun _ => 0)) jw_ac_int rfl (fun _ h => by cases h) (by decide) dX7_init_104 (by decide) (by decide) (by decide) (fun _ _ => rfl) (fun hN => jok_zI rfl (by decide) (by decide) (fun m h => by cases h <;> rfl) hN) (by decide) (by decide) hW (fun b104 V104 hn104 hb104 hk104 hW hx104 hA104 => ?_)
  have hz104 := he.1.none hn104
  have he := he.trans (hx104.sub (jsub_of rfl))
  have hb7 := hb7.mono hx104.1
  have hb15 := hb15.mono hx104.1
  have hb24 := hb24.mono hx104.1
  have hb32 := hb32.mono hx104.1
  have hb40 := hb40.mono hx104.1
  have hb48 := hb48.mono hx104.1
  have hb56 := hb56.mono hx104.1
  have hb64 := hb64.mono hx104.1
  have hb72 := hb72.mono hx104.1
  have hb80 := hb80.mono hx104.1
  have hb88 := hb88.mono hx104.1
  have hb96 := hb96.mono hx104.1
  have hq := hk104 _ _ hq
  have hA80 := hk104 _ _ hA80
  have hA88 := hk104 _ _ hA88
  have hA96 := hk104 _ _ hA96
  have hA104 : V104 b104 = some (.inl (24, 84, .inl (fun _ => 0))) := hA104
  refine Jc_putF jf_X7_48 jt_X7_14 rfl (fun _ h => by cases h; rfl) dX7_init_106 hq rfl rfl (Nat.le_of_ble_eq_true rfl) (fun _ h => by cases h) hW (fun V106 hq hW hx106 hB106 => ?_)
  have hq : V106 q = some (.inr (5, [.int 0, .ref b7, .ref b15, .ref b24, .ref b32, .int 0, .ref b40, .ref b48, .ref b56, .ref b64, .ref b72, .ref b80, .ref b88, .ref b96, .ref b104, .null, .null, .null, .null, .null, .null, .null, .int 0, .int 0, .int 0, .null, .int 0, .int 0, .int 0, .null, .null, .null, .null, .null])) := hq
  have he := he.trans (hx106.sub (jsub_of rfl))
  have hb7 := hb7.mono hx106.1
  have hb15 := hb15.mono hx106.1
  have hb24 := hb24.mono hx106.1
  have hb32 := hb32.mono hx106.1
  have hb40 := hb40.mono hx106.1
  have hb48 := hb48.mono hx106.1
  have hb56 := hb56.mono hx106.1
  have hb64 := hb64.mono hx106.1
  have hb72 := hb72.mono hx106.1
  have hb80 := hb80.mono hx106.1
  have hb88 := hb88.mono hx106.1
  have hb96 := hb96.mono hx106.1
  have hb104 := hb104.mono hx106.1
  have hA80 := hx106.2 _ _ hA80 (jnot_of rfl)
  have hA88 := hx106.2 _ _ hA88 (jnot_of rfl)
  have hA96 := hx106.2 _ _ hA96 (jnot_of rfl)
  have hA104 := hx106.2 _ _ hA104 (jnot_of rfl)
  refine J_aload_n dX7_init_109 rfl ?_
  refine J_bipush (v := 84) dX7_init_110 (by decide) ?_
  refine Jc_newax (atype := .int) (t := 25) (B := 84) (x := .inl (fun _ => 0)) jw_ac_int rfl (fun _ h => by cases h) (by decide) dX7_init_112 (by decide) (by decide) (by decide) (fun _ _ => rfl) (fun hN => jok_zI rfl (by decide) (by decide) (fun m h => by cases h <;> rfl) hN) (by decide) (by decide) hW (fun b112 V112 hn112 hb112 hk112 hW hx112 hA112 => ?_)
  have hz112 := he.1.none hn112
  have he := he.trans (hx112.sub (jsub_of rfl))
  have hb7 := hb7.mono hx112.1
  have hb15 := hb15.mono hx112.1
  have hb24 := hb24.mono hx112.1
  have hb32 := hb32.mono hx112.1
  have hb40 := hb40.mono hx112.1
  have hb48 := hb48.mono hx112.1
  have hb56 := hb56.mono hx112.1
  have hb64 := hb64.mono hx112.1
  have hb72 := hb72.mono hx112.1
  have hb80 := hb80.mono hx112.1
  have hb88 := hb88.mono hx112.1
  have hb96 := hb96.mono hx112.1
  have hb104 := hb104.mono hx112.1
  have hq := hk112 _ _ hq
  have hA80 := hk112 _ _ hA80
  have hA88 := hk112 _ _ hA88
  have hA96 := hk112 _ _ hA96
  have hA104 := hk112 _ _ hA104
  have hA112 : V112 b112 = some (.inl (25, 84, .inl (fun _ => 0))) := hA112
  refine Jc_putF jf_X7_51 jt_X7_15 rfl (fun _ h => by cases h; rfl) dX7_init_114 hq rfl rfl (Nat.le_of_ble_eq_true rfl) (fun _ h => by cases h) hW (fun V114 hq hW hx114 hB114 => ?_)
  have hq : V114 q = some (.inr (5, [.int 0, .ref b7, .ref b15, .ref b24, .ref b32, .int 0, .ref b40, .ref b48, .ref b56, .ref b64, .ref b72, .ref b80, .ref b88, .ref b96, .ref b104, .ref b112, .null, .null, .null, .null, .null, .null, .int 0, .int 0, .int 0, .null, .int 0, .int 0, .int 0, .null, .null, .null, .null, .null])) := hq
  have he := he.trans (hx114.sub (jsub_of rfl))
  have hb7 := hb7.mono hx114.1
  have hb15 := hb15.mono hx114.1
  have hb24 := hb24.mono hx114.1
  have hb32 := hb32.mono hx114.1
  have hb40 := hb40.mono hx114.1
  have hb48 := hb48.mono hx114.1
  have hb56 := hb56.mono hx114.1
  have hb64 := hb64.mono hx114.1
  have hb72 := hb72.mono hx114.1
  have hb80 := hb80.mono hx114.1
  have hb88 := hb88.mono hx114.1
  have hb96 := hb96.mono hx114.1
  have hb104 := hb104.mono hx114.1
  have hb112 := hb112.mono hx114.1
  have hA80 := hx114.2 _ _ hA80 (jnot_of rfl)
  have hA88 := hx114.2 _ _ hA88 (jnot_of rfl)
  have hA96 := hx114.2 _ _ hA96 (jnot_of rfl)
  have hA104 := hx114.2 _ _ hA104 (jnot_of rfl)
  have hA112 := hx114.2 _ _ hA112 (jnot_of rfl)
  refine J_aload_n dX7_init_117 rfl ?_
  refine J_ldc jw_k_X7_54 dX7_init_118 ?_
  refine Jc_newax (atype := .boolean) (t := 41) (B := 79507) (x := .inl (fun _ => 0)) jw_ac_boolean rfl (fun _ h => by cases h) (by decide) dX7_init_120 (by decide) (by decide) (by decide) (fun _ _ => rfl) (fun hN => jok_zI rfl (by decide) (by decide) (fun m h => by cases h <;> rfl) hN) (by decide) (by decide) hW (fun b120 V120 hn120 hb120 hk120 hW hx120 hA120 => ?_)
  have hz120 := he.1.none hn120
  have he := he.trans (hx120.sub (jsub_of rfl))
  have hb7 := hb7.mono hx120.1
  have hb15 := hb15.mono hx120.1
  have hb24 := hb24.mono hx120.1
  have hb32 := hb32.mono hx120.1
  have hb40 := hb40.mono hx120.1
  have hb48 := hb48.mono hx120.1
  have hb56 := hb56.mono hx120.1
  have hb64 := hb64.mono hx120.1
  have hb72 := hb72.mono hx120.1
  have hb80 := hb80.mono hx120.1
  have hb88 := hb88.mono hx120.1
  have hb96 := hb96.mono hx120.1
  have hb104 := hb104.mono hx120.1
  have hb112 := hb112.mono hx120.1
  have hq := hk120 _ _ hq
  have hA80 := hk120 _ _ hA80
  have hA88 := hk120 _ _ hA88
  have hA96 := hk120 _ _ hA96
  have hA104 := hk120 _ _ hA104
  have hA112 := hk120 _ _ hA112
  have hA120 : V120 b120 = some (.inl (41, 79507, .inl (fun _ => 0))) := hA120
  refine Jc_putF jf_X7_55 jt_X7_16 rfl (fun _ h => by cases h; rfl) dX7_init_122 hq rfl rfl (Nat.le_of_ble_eq_true rfl) (fun _ h => by cases h) hW (fun V122 hq hW hx122 hB122 => ?_)
  have hq : V122 q = some (.inr (5, [.int 0, .ref b7, .ref b15, .ref b24, .ref b32, .int 0, .ref b40, .ref b48, .ref b56, .ref b64, .ref b72, .ref b80, .ref b88, .ref b96, .ref b104, .ref b112, .ref b120, .null, .null, .null, .null, .null, .int 0, .int 0, .int 0, .null, .int 0, .int 0, .int 0, .null, .null, .null, .null, .null])) := hq
  have he := he.trans (hx122.sub (jsub_of rfl))
  have hb7 := hb7.mono hx122.1
  have hb15 := hb15.mono hx122.1
  have hb24 := hb24.mono hx122.1
  have hb32 := hb32.mono hx122.1
  have hb40 := hb40.mono hx122.1
  have hb48 := hb48.mono hx122.1
  have hb56 := hb56.mono hx122.1
  have hb64 := hb64.mono hx122.1
  have hb72 := hb72.mono hx122.1
  have hb80 := hb80.mono hx122.1
  have hb88 := hb88.mono hx122.1
  have hb96 := hb96.mono hx122.1
  have hb104 := hb104.mono hx122.1
  have hb112 := hb112.mono hx122.1
  have hb120 := hb120.mono hx122.1
  have hA80 := hx122.2 _ _ hA80 (jnot_of rfl)
  have hA88 := hx122.2 _ _ hA88 (jnot_of rfl)
  have hA96 := hx122.2 _ _ hA96 (jnot_of rfl)
  have hA104 := hx122.2 _ _ hA104 (jnot_of rfl)
  have hA112 := hx122.2 _ _ hA112 (jnot_of rfl)
  have hA120 := hx122.2 _ _ hA120 (jnot_of rfl)
  refine J_aload_n dX7_init_125 rfl ?_
  refine J_bipush (v := 22) dX7_init_126 (by decide) ?_
  refine Jc_newa (atype := .int) (t := 26) (B := 22) (x := .inl (fun _ => 0)) jw_ac_int rfl (fun _ h => by cases h) (by decide) dX7_init_128 (by decide) (by decide) (by decide) (fun _ _ => rfl) (fun hN => jok_zI rfl (by decide) (by decide) (fun m h => by cases h <;> rfl) hN) (by decide) (by decide) hW (fun b128 V128 hn128 hb128 hk128 hW hx128 => ?_)
  have hz128 := he.1.none hn128
  have he := he.trans (hx128.sub (jsub_of rfl))
  have hb7 := hb7.mono hx128.1
  have hb15 := hb15.mono hx128.1
  have hb24 := hb24.mono hx128.1
  have hb32 := hb32.mono hx128.1
  have hb40 := hb40.mono hx128.1
  have hb48 := hb48.mono hx128.1
  have hb56 := hb56.mono hx128.1
  have hb64 := hb64.mono hx128.1
  have hb72 := hb72.mono hx128.1
  have hb80 := hb80.mono hx128.1
  have hb88 := hb88.mono hx128.1
  have hb96 := hb96.mono hx128.1
  have hb104 := hb104.mono hx128.1
  have hb112 := hb112.mono hx128.1
  have hb120 := hb120.mono hx128.1
  have hq := hk128 _ _ hq
  have hA80 := hk128 _ _ hA80
  have hA88 := hk128 _ _ hA88
  have hA96 := hk128 _ _ hA96
  have hA104 := hk128 _ _ hA104
  have hA112 := hk128 _ _ hA112
  have hA120 := hk128 _ _ hA120
  refine Jc_putF jf_X7_58 jt_X7_17 rfl (fun _ h => by cases h; rfl) dX7_init_130 hq rfl rfl (Nat.le_of_ble_eq_true rfl) (fun _ h => by cases h) hW (fun V130 hq hW hx130 hB130 => ?_)
  have hq : V130 q = some (.inr (5, [.int 0, .ref b7, .ref b15, .ref b24, .ref b32, .int 0, .ref b40, .ref b48, .ref b56, .ref b64, .ref b72, .ref b80, .ref b88, .ref b96, .ref b104, .ref b112, .ref b120, .ref b128, .null, .null, .null, .null, .int 0, .int 0, .int 0, .null, .int 0, .int 0, .int 0, .null, .null, .null, .null, .null])) := hq
  have he := he.trans (hx130.sub (jsub_of rfl))
  have hb7 := hb7.mono hx130.1
  have hb15 := hb15.mono hx130.1
  have hb24 := hb24.mono hx130.1
  have hb32 := hb32.mono hx130.1
  have hb40 := hb40.mono hx130.1
  have hb48 := hb48.mono hx130.1
  have hb56 := hb56.mono hx130.1
  have hb64 := hb64.mono hx130.1
  have hb72 := hb72.mono hx130.1
  have hb80 := hb80.mono hx130.1
  have hb88 := hb88.mono hx130.1
  have hb96 := hb96.mono hx130.1
  have hb104 := hb104.mono hx130.1
  have hb112 := hb112.mono hx130.1
  have hb120 := hb120.mono hx130.1
  have hb128 := hb128.mono hx130.1
  have hA80 := hx130.2 _ _ hA80 (jnot_of rfl)
  have hA88 := hx130.2 _ _ hA88 (jnot_of rfl)
  have hA96 := hx130.2 _ _ hA96 (jnot_of rfl)
  have hA104 := hx130.2 _ _ hA104 (jnot_of rfl)
  have hA112 := hx130.2 _ _ hA112 (jnot_of rfl)
  have hA120 := hx130.2 _ _ hA120 (jnot_of rfl)
  refine J_aload_n dX7_init_133 rfl ?_
  refine J_bipush (v := 32) dX7_init_134 (by decide) ?_
  refine Jc_newax (atype := .int) (t := 27) (B := 32) (x := .inl (fun _ => 0)) jw_ac_int rfl (fun _ h => by cases h) (by decide) dX7_init_136 (by decide) (by decide) (by decide) (fun _ _ => rfl) (fun hN => jok_zI rfl (by decide) (by decide) (fun m h => by cases h <;> rfl) hN) (by decide) (by decide) hW (fun b136 V136 hn136 hb136 hk136 hW hx136 hA136 => ?_)
  have hz136 := he.1.none hn136
  have he := he.trans (hx136.sub (jsub_of rfl))
  have hb7 := hb7.mono hx136.1
  have hb15 := hb15.mono hx136.1
  have hb24 := hb24.mono hx136.1
  have hb32 := hb32.mono hx136.1
  have hb40 := hb40.mono hx136.1
  have hb48 := hb48.mono hx136.1
  have hb56 := hb56.mono hx136.1
  have hb64 := hb64.mono hx136.1
  have hb72 := hb72.mono hx136.1
  have hb80 := hb80.mono hx136.1
  have hb88 := hb88.mono hx136.1
  have hb96 := hb96.mono hx136.1
  have hb104 := hb104.mono hx136.1
  have hb112 := hb112.mono hx136.1
  have hb120 := hb120.mono hx136.1
  have hb128 := hb128.mono hx136.1
  have hq := hk136 _ _ hq
  have hA80 := hk136 _ _ hA80
  have hA88 := hk136 _ _ hA88
  have hA96 := hk136 _ _ hA96
  have hA104 := hk136 _ _ hA104
  have hA112 := hk136 _ _ hA112
  have hA120 := hk136 _ _ hA120
  have hA136 : V136 b136 = some (.inl (27, 32, .inl (fun _ => 0))) := hA136
  refine Jc_putF jf_X7_61 jt_X7_18 rfl (fun _ h => by cases h; rfl) dX7_init_138 hq rfl rfl (Nat.le_of_ble_eq_true rfl) (fun _ h => by cases h) hW (fun V138 hq hW hx138 hB138 => ?_)
  have hq : V138 q = some (.inr (5, [.int 0, .ref b7, .ref b15, .ref b24, .ref b32, .int 0, .ref b40, .ref b48, .ref b56, .ref b64, .ref b72, .ref b80, .ref b88, .ref b96, .ref b104, .ref b112, .ref b120, .ref b128, .ref b136, .null, .null, .null, .int 0, .int 0, .int 0, .null, .int 0, .int 0, .int 0, .null, .null, .null, .null, .null])) := hq
  have he := he.trans (hx138.sub (jsub_of rfl))
  have hb7 := hb7.mono hx138.1
  have hb15 := hb15.mono hx138.1
  have hb24 := hb24.mono hx138.1
  have hb32 := hb32.mono hx138.1
  have hb40 := hb40.mono hx138.1
  have hb48 := hb48.mono hx138.1
  have hb56 := hb56.mono hx138.1
  have hb64 := hb64.mono hx138.1
  have hb72 := hb72.mono hx138.1
  have hb80 := hb80.mono hx138.1
  have hb88 := hb88.mono hx138.1
  have hb96 := hb96.mono hx138.1
  have hb104 := hb104.mono hx138.1
  have hb112 := hb112.mono hx138.1
  have hb120 := hb120.mono hx138.1
  have hb128 := hb128.mono hx138.1
  have hb136 := hb136.mono hx138.1
  have hA80 := hx138.2 _ _ hA80 (jnot_of rfl)
  have hA88 := hx138.2 _ _ hA88 (jnot_of rfl)
  have hA96 := hx138.2 _ _ hA96 (jnot_of rfl)
  have hA104 := hx138.2 _ _ hA104 (jnot_of rfl)
  have hA112 := hx138.2 _ _ hA112 (jnot_of rfl)
  have hA120 := hx138.2 _ _ hA120 (jnot_of rfl)
  have hA136 := hx138.2 _ _ hA136 (jnot_of rfl)
  refine J_aload_n dX7_init_141 rfl ?_
  refine J_bipush (v := 28) dX7_init_142 (by decide) ?_
  refine Jc_newax (atype := .int) (t := 28) (B := 28) (x := .inl (fun _ => 0)) jw_ac_int rfl (fun _ h => by cases h) (by decide) dX7_init_144 (by decide) (by decide) (by decide) (fun _ _ => rfl) (fun hN => jok_zI rfl (by decide) (by decide) (fun m h => by cases h <;> rfl) hN) (by decide) (by decide) hW (fun b144 V144 hn144 hb144 hk144 hW hx144 hA144 => ?_)
  have hz144 := he.1.none hn144
  have he := he.trans (hx144.sub (jsub_of rfl))
  have hb7 := hb7.mono hx144.1
  have hb15 := hb15.mono hx144.1
  have hb24 := hb24.mono hx144.1
  have hb32 := hb32.mono hx144.1
  have hb40 := hb40.mono hx144.1
  have hb48 := hb48.mono hx144.1
  have hb56 := hb56.mono hx144.1
  have hb64 := hb64.mono hx144.1
  have hb72 := hb72.mono hx144.1
  have hb80 := hb80.mono hx144.1
  have hb88 := hb88.mono hx144.1
  have hb96 := hb96.mono hx144.1
  have hb104 := hb104.mono hx144.1
  have hb112 := hb112.mono hx144.1
  have hb120 := hb120.mono hx144.1
  have hb128 := hb128.mono hx144.1
  have hb136 := hb136.mono hx144.1
  have hq := hk144 _ _ hq
  have hA80 := hk144 _ _ hA80
  have hA88 := hk144 _ _ hA88
  have hA96 := hk144 _ _ hA96
  have hA104 := hk144 _ _ hA104
  have hA112 := hk144 _ _ hA112
  have hA120 := hk144 _ _ hA120
  have hA136 := hk144 _ _ hA136
  have hA144 : V144 b144 = some (.inl (28, 28, .inl (fun _ => 0))) := hA144
  refine Jc_putF jf_X7_64 jt_X7_19 rfl (fun _ h => by cases h; rfl) dX7_init_146 hq rfl rfl (Nat.le_of_ble_eq_true rfl) (fun _ h => by cases h) hW (fun V146 hq hW hx146 hB146 => ?_)
  have hq : V146 q = some (.inr (5, [.int 0, .ref b7, .ref b15, .ref b24, .ref b32, .int 0, .ref b40, .ref b48, .ref b56, .ref b64, .ref b72, .ref b80, .ref b88, .ref b96, .ref b104, .ref b112, .ref b120, .ref b128, .ref b136, .ref b144, .null, .null, .int 0, .int 0, .int 0, .null, .int 0, .int 0, .int 0, .null, .null, .null, .null, .null])) := hq
  have he := he.trans (hx146.sub (jsub_of rfl))
  have hb7 := hb7.mono hx146.1
  have hb15 := hb15.mono hx146.1
  have hb24 := hb24.mono hx146.1
  have hb32 := hb32.mono hx146.1
  have hb40 := hb40.mono hx146.1
  have hb48 := hb48.mono hx146.1
  have hb56 := hb56.mono hx146.1
  have hb64 := hb64.mono hx146.1
  have hb72 := hb72.mono hx146.1
  have hb80 := hb80.mono hx146.1
  have hb88 := hb88.mono hx146.1
  have hb96 := hb96.mono hx146.1
  have hb104 := hb104.mono hx146.1
  have hb112 := hb112.mono hx146.1
  have hb120 := hb120.mono hx146.1
  have hb128 := hb128.mono hx146.1
  have hb136 := hb136.mono hx146.1
  have hb144 := hb144.mono hx146.1
  have hA80 := hx146.2 _ _ hA80 (jnot_of rfl)
  have hA88 := hx146.2 _ _ hA88 (jnot_of rfl)
  have hA96 := hx146.2 _ _ hA96 (jnot_of rfl)
  have hA104 := hx146.2 _ _ hA104 (jnot_of rfl)
  have hA112 := hx146.2 _ _ hA112 (jnot_of rfl)
  have hA120 := hx146.2 _ _ hA120 (jnot_of rfl)
  have hA136 := hx146.2 _ _ hA136 (jnot_of rfl)
  have hA144 := hx146.2 _ _ hA144 (jnot_of rfl)
  refine J_aload_n dX7_init_149 rfl ?_
  refine J_sipush (v := 10000) dX7_init_150 (by decide) ?_
  refine Jc_newa (atype := .boolean) (t := 42) (B := 10000) (x := .inl (fun _ => 0)) jw_ac_boolean rfl (fun _ h => by cases h) (by decide) dX7_init_153 (by decide) (by decide) (by decide) (fun _ _ => rfl) (fun hN => jok_zI rfl (by decide) (by decide) (fun m h => by cases h <;> rfl) hN) (by decide) (by decide) hW (fun b153 V153 hn153 hb153 hk153 hW hx153 => ?_)
  have hz153 := he.1.none hn153
  have he := he.trans (hx153.sub (jsub_of rfl))
  have hb7 := hb7.mono hx153.1
  have hb15 := hb15.mono hx153.1
  have hb24 := hb24.mono hx153.1
  have hb32 := hb32.mono hx153.1
  have hb40 := hb40.mono hx153.1
  have hb48 := hb48.mono hx153.1
  have hb56 := hb56.mono hx153.1
  have hb64 := hb64.mono hx153.1
  have hb72 := hb72.mono hx153.1
  have hb80 := hb80.mono hx153.1
  have hb88 := hb88.mono hx153.1
  have hb96 := hb96.mono hx153.1
  have hb104 := hb104.mono hx153.1
  have hb112 := hb112.mono hx153.1
  have hb120 := hb120.mono hx153.1
  have hb128 := hb128.mono hx153.1
  have hb136 := hb136.mono hx153.1
  have hb144 := hb144.mono hx153.1
  have hq := hk153 _ _ hq
  have hA80 := hk153 _ _ hA80
  have hA88 := hk153 _ _ hA88
  have hA96 := hk153 _ _ hA96
  have hA104 := hk153 _ _ hA104
  have hA112 := hk153 _ _ hA112
  have hA120 := hk153 _ _ hA120
  have hA136 := hk153 _ _ hA136
  have hA144 := hk153 _ _ hA144
  refine Jc_putF jf_X7_67 jt_X7_20 rfl (fun _ h => by cases h; rfl) dX7_init_155 hq rfl rfl (Nat.le_of_ble_eq_true rfl) (fun _ h => by cases h) hW (fun V155 hq hW hx155 hB155 => ?_)
  have hq : V155 q = some (.inr (5, [.int 0, .ref b7, .ref b15, .ref b24, .ref b32, .int 0, .ref b40, .ref b48, .ref b56, .ref b64, .ref b72, .ref b80, .ref b88, .ref b96, .ref b104, .ref b112, .ref b120, .ref b128, .ref b136, .ref b144, .ref b153, .null, .int 0, .int 0, .int 0, .null, .int 0, .int 0, .int 0, .null, .null, .null, .null, .null])) := hq
  have he := he.trans (hx155.sub (jsub_of rfl))
  have hb7 := hb7.mono hx155.1
  have hb15 := hb15.mono hx155.1
  have hb24 := hb24.mono hx155.1
  have hb32 := hb32.mono hx155.1
  have hb40 := hb40.mono hx155.1
  have hb48 := hb48.mono hx155.1
  have hb56 := hb56.mono hx155.1
  have hb64 := hb64.mono hx155.1
  have hb72 := hb72.mono hx155.1
  have hb80 := hb80.mono hx155.1
  have hb88 := hb88.mono hx155.1
  have hb96 := hb96.mono hx155.1
  have hb104 := hb104.mono hx155.1
  have hb112 := hb112.mono hx155.1
  have hb120 := hb120.mono hx155.1
  have hb128 := hb128.mono hx155.1
  have hb136 := hb136.mono hx155.1
  have hb144 := hb144.mono hx155.1
  have hb153 := hb153.mono hx155.1
  have hA80 := hx155.2 _ _ hA80 (jnot_of rfl)
  have hA88 := hx155.2 _ _ hA88 (jnot_of rfl)
  have hA96 := hx155.2 _ _ hA96 (jnot_of rfl)
  have hA104 := hx155.2 _ _ hA104 (jnot_of rfl)
  have hA112 := hx155.2 _ _ hA112 (jnot_of rfl)
  have hA120 := hx155.2 _ _ hA120 (jnot_of rfl)
  have hA136 := hx155.2 _ _ hA136 (jnot_of rfl)
  have hA144 := hx155.2 _ _ hA144 (jnot_of rfl)
  refine J_aload_n dX7_init_158 rfl ?_
  refine J_sipush (v := 10000) dX7_init_159 (by decide) ?_
  refine Jc_newa (atype := .int) (t := 29) (B := 10000) (x := .inl (fun _ => 0)) jw_ac_int rfl (fun _ h => by cases h) (by decide) dX7_init_162 (by decide) (by decide) (by decide) (fun _ _ => rfl) (fun hN => jok_zI rfl (by decide) (by decide) (fun m h => by cases h <;> rfl) hN) (by decide) (by decide) hW (fun b162 V162 hn162 hb162 hk162 hW hx162 => ?_)
  have hz162 := he.1.none hn162
  have he := he.trans (hx162.sub (jsub_of rfl))
  have hb7 := hb7.mono hx162.1
  have hb15 := hb15.mono hx162.1
  have hb24 := hb24.mono hx162.1
  have hb32 := hb32.mono hx162.1
  have hb40 := hb40.mono hx162.1
  have hb48 := hb48.mono hx162.1
  have hb56 := hb56.mono hx162.1
  have hb64 := hb64.mono hx162.1
  have hb72 := hb72.mono hx162.1
  have hb80 := hb80.mono hx162.1
  have hb88 := hb88.mono hx162.1
  have hb96 := hb96.mono hx162.1
  have hb104 := hb104.mono hx162.1
  have hb112 := hb112.mono hx162.1
  have hb120 := hb120.mono hx162.1
  have hb128 := hb128.mono hx162.1
  have hb136 := hb136.mono hx162.1
  have hb144 := hb144.mono hx162.1
  have hb153 := hb153.mono hx162.1
  have hq := hk162 _ _ hq
  have hA80 := hk162 _ _ hA80
  have hA88 := hk162 _ _ hA88
  have hA96 := hk162 _ _ hA96
  have hA104 := hk162 _ _ hA104
  have hA112 := hk162 _ _ hA112
  have hA120 := hk162 _ _ hA120
  have hA136 := hk162 _ _ hA136
  have hA144 := hk162 _ _ hA144
  refine Jc_putF jf_X7_70 jt_X7_21 rfl (fun _ h => by cases h; rfl) dX7_init_164 hq rfl rfl (Nat.le_of_ble_eq_true rfl) (fun _ h => by cases h) hW (fun V164 hq hW hx164 hB164 => ?_)
  have hq : V164 q = some (.inr (5, [.int 0, .ref b7, .ref b15, .ref b24, .ref b32, .int 0, .ref b40, .ref b48, .ref b56, .ref b64, .ref b72, .ref b80, .ref b88, .ref b96, .ref b104, .ref b112, .ref b120, .ref b128, .ref b136, .ref b144, .ref b153, .ref b162, .int 0, .int 0, .int 0, .null, .int 0, .int 0, .int 0, .null, .null, .null, .null, .null])) := hq
  have he := he.trans (hx164.sub (jsub_of rfl))
  have hb7 := hb7.mono hx164.1
  have hb15 := hb15.mono hx164.1
  have hb24 := hb24.mono hx164.1
  have hb32 := hb32.mono hx164.1
  have hb40 := hb40.mono hx164.1
  have hb48 := hb48.mono hx164.1
  have hb56 := hb56.mono hx164.1
  have hb64 := hb64.mono hx164.1
  have hb72 := hb72.mono hx164.1
  have hb80 := hb80.mono hx164.1
  have hb88 := hb88.mono hx164.1
  have hb96 := hb96.mono hx164.1
  have hb104 := hb104.mono hx164.1
  have hb112 := hb112.mono hx164.1
  have hb120 := hb120.mono hx164.1
  have hb128 := hb128.mono hx164.1
  have hb136 := hb136.mono hx164.1
  have hb144 := hb144.mono hx164.1
  have hb153 := hb153.mono hx164.1
  have hb162 := hb162.mono hx164.1
  have hA80 := hx164.2 _ _ hA80 (jnot_of rfl)
  have hA88 := hx164.2 _ _ hA88 (jnot_of rfl)
  have hA96 := hx164.2 _ _ hA96 (jnot_of rfl)
  have hA104 := hx164.2 _ _ hA104 (jnot_of rfl)
  have hA112 := hx164.2 _ _ hA112 (jnot_of rfl)
  have hA120 := hx164.2 _ _ hA120 (jnot_of rfl)
  have hA136 := hx164.2 _ _ hA136 (jnot_of rfl)
  have hA144 := hx164.2 _ _ hA144 (jnot_of rfl)
  refine J_aload_n dX7_init_167 rfl ?_
  refine J_iconst (v := 2) dX7_init_168 (by decide) ?_
  refine Jc_put jf_X7_73 jt_X7_23 dX7_init_169 hq rfl rfl (Nat.le_of_ble_eq_true rfl) (fun _ h => by cases h) hW (fun V169 hq hW hx169 hB169 => ?_)
  have hq : V169 q = some (.inr (5, [.int 0, .ref b7, .ref b15, .ref b24, .ref b32, .int 0, .ref b40, .ref b48, .ref b56, .ref b64, .ref b72, .ref b80, .ref b88, .ref b96, .ref b104, .ref b112, .ref b120, .ref b128, .ref b136, .ref b144, .ref b153, .ref b162, .int 0, .int 2, .int 0, .null, .int 0, .int 0, .int 0, .null, .null, .null, .null, .null])) := hq
  have he := he.trans (hx169.sub (jsub_of rfl))
  have hb7 := hb7.mono hx169.1
  have hb15 := hb15.mono hx169.1
  have hb24 := hb24.mono hx169.1
  have hb32 := hb32.mono hx169.1
  have hb40 := hb40.mono hx169.1
  have hb48 := hb48.mono hx169.1
  have hb56 := hb56.mono hx169.1
  have hb64 := hb64.mono hx169.1
  have hb72 := hb72.mono hx169.1
  have hb80 := hb80.mono hx169.1
  have hb88 := hb88.mono hx169.1
  have hb96 := hb96.mono hx169.1
  have hb104 := hb104.mono hx169.1
  have hb112 := hb112.mono hx169.1
  have hb120 := hb120.mono hx169.1
  have hb128 := hb128.mono hx169.1
  have hb136 := hb136.mono hx169.1
  have hb144 := hb144.mono hx169.1
  have hb153 := hb153.mono hx169.1
  have hb162 := hb162.mono hx169.1
  have hA80 := hx169.2 _ _ hA80 (jnot_of rfl)
  have hA88 := hx169.2 _ _ hA88 (jnot_of rfl)
  have hA96 := hx169.2 _ _ hA96 (jnot_of rfl)
  have hA104 := hx169.2 _ _ hA104 (jnot_of rfl)
  have hA112 := hx169.2 _ _ hA112 (jnot_of rfl)
  have hA120 := hx169.2 _ _ hA120 (jnot_of rfl)
  have hA136 := hx169.2 _ _ hA136 (jnot_of rfl)
  have hA144 := hx169.2 _ _ hA144 (jnot_of rfl)
  refine J_aload_n dX7_init_172 rfl ?_
  refine J_iconst (v := 2) dX7_init_173 (by decide) ?_
  refine Jc_put jf_X7_77 jt_X7_24 dX7_init_174 hq rfl rfl (Nat.le_of_ble_eq_true rfl) (fun _ h => by cases h) hW (fun V174 hq hW hx174 hB174 => ?_)
  have hq : V174 q = some (.inr (5, [.int 0, .ref b7, .ref b15, .ref b24, .ref b32, .int 0, .ref b40, .ref b48, .ref b56, .ref b64, .ref b72, .ref b80, .ref b88, .ref b96, .ref b104, .ref b112, .ref b120, .ref b128, .ref b136, .ref b144, .ref b153, .ref b162, .int 0, .int 2, .int 2, .null, .int 0, .int 0, .int 0, .null, .null, .null, .null, .null])) := hq
  have he := he.trans (hx174.sub (jsub_of rfl))
  have hb7 := hb7.mono hx174.1
  have hb15 := hb15.mono hx174.1
  have hb24 := hb24.mono hx174.1
  have hb32 := hb32.mono hx174.1
  have hb40 := hb40.mono hx174.1
  have hb48 := hb48.mono hx174.1
  have hb56 := hb56.mono hx174.1
  have hb64 := hb64.mono hx174.1
  have hb72 := hb72.mono hx174.1
  have hb80 := hb80.mono hx174.1
  have hb88 := hb88.mono hx174.1
  have hb96 := hb96.mono hx174.1
  have hb104 := hb104.mono hx174.1
  have hb112 := hb112.mono hx174.1
  have hb120 := hb120.mono hx174.1
  have hb128 := hb128.mono hx174.1
  have hb136 := hb136.mono hx174.1
  have hb144 := hb144.mono hx174.1
  have hb153 := hb153.mono hx174.1
  have hb162 := hb162.mono hx174.1
  have hA80 := hx174.2 _ _ hA80 (jnot_of rfl)
  have hA88 := hx174.2 _ _ hA88 (jnot_of rfl)
  have hA96 := hx174.2 _ _ hA96 (jnot_of rfl)
  have hA104 := hx174.2 _ _ hA104 (jnot_of rfl)
  have hA112 := hx174.2 _ _ hA112 (jnot_of rfl)
  have hA120 := hx174.2 _ _ hA120 (jnot_of rfl)
  have hA136 := hx174.2 _ _ hA136 (jnot_of rfl)
  have hA144 := hx174.2 _ _ hA144 (jnot_of rfl)
  refine J_aload_n dX7_init_177 rfl ?_
  refine J_bipush (v := 36) dX7_init_178 (by decide) ?_
  refine Jc_newax (atype := .boolean) (t := 43) (B := 36) (x := .inl (fun _ => 0)) jw_ac_boolean rfl (fun _ h => by cases h) (by decide) dX7_init_180 (by decide) (by decide) (by decide) (fun _ _ => rfl) (fun hN => jok_zI rfl (by decide) (by decide) (fun m h => by cases h <;> rfl) hN) (by decide) (by decide) hW (fun b180 V180 hn180 hb180 hk180 hW hx180 hA180 => ?_)
  have hz180 := he.1.none hn180
  have he := he.trans (hx180.sub (jsub_of rfl))
  have hb7 := hb7.mono hx180.1
  have hb15 := hb15.mono hx180.1
  have hb24 := hb24.mono hx180.1
  have hb32 := hb32.mono hx180.1
  have hb40 := hb40.mono hx180.1
  have hb48 := hb48.mono hx180.1
  have hb56 := hb56.mono hx180.1
  have hb64 := hb64.mono hx180.1
  have hb72 := hb72.mono hx180.1
  have hb80 := hb80.mono hx180.1
  have hb88 := hb88.mono hx180.1
  have hb96 := hb96.mono hx180.1
  have hb104 := hb104.mono hx180.1
  have hb112 := hb112.mono hx180.1
  have hb120 := hb120.mono hx180.1
  have hb128 := hb128.mono hx180.1
  have hb136 := hb136.mono hx180.1
  have hb144 := hb144.mono hx180.1
  have hb153 := hb153.mono hx180.1
  have hb162 := hb162.mono hx180.1
  have hq := hk180 _ _ hq
  have hA80 := hk180 _ _ hA80
  have hA88 := hk180 _ _ hA88
  have hA96 := hk180 _ _ hA96
  have hA104 := hk180 _ _ hA104
  have hA112 := hk180 _ _ hA112
  have hA120 := hk180 _ _ hA120
  have hA136 := hk180 _ _ hA136
  have hA144 := hk180 _ _ hA144
  have hA180 : V180 b180 = some (.inl (43, 36, .inl (fun _ => 0))) := hA180
  refine Jc_putF jf_X7_80 jt_X7_25 rfl (fun _ h => by cases h; rfl) dX7_init_182 hq rfl rfl (Nat.le_of_ble_eq_true rfl) (fun _ h => by cases h) hW (fun V182 hq hW hx182 hB182 => ?_)
  have hq : V182 q = some (.inr (5, [.int 0, .ref b7, .ref b15, .ref b24, .ref b32, .int 0, .ref b40, .ref b48, .ref b56, .ref b64, .ref b72, .ref b80, .ref b88, .ref b96, .ref b104, .ref b112, .ref b120, .ref b128, .ref b136, .ref b144, .ref b153, .ref b162, .int 0, .int 2, .int 2, .ref b180, .int 0, .int 0, .int 0, .null, .null, .null, .null, .null])) := hq
  have he := he.trans (hx182.sub (jsub_of rfl))
  have hb7 := hb7.mono hx182.1
  have hb15 := hb15.mono hx182.1
  have hb24 := hb24.mono hx182.1
  have hb32 := hb32.mono hx182.1
  have hb40 := hb40.mono hx182.1
  have hb48 := hb48.mono hx182.1
  have hb56 := hb56.mono hx182.1
  have hb64 := hb64.mono hx182.1
  have hb72 := hb72.mono hx182.1
  have hb80 := hb80.mono hx182.1
  have hb88 := hb88.mono hx182.1
  have hb96 := hb96.mono hx182.1
  have hb104 := hb104.mono hx182.1
  have hb112 := hb112.mono hx182.1
  have hb120 := hb120.mono hx182.1
  have hb128 := hb128.mono hx182.1
  have hb136 := hb136.mono hx182.1
  have hb144 := hb144.mono hx182.1
  have hb153 := hb153.mono hx182.1
  have hb162 := hb162.mono hx182.1
  have hb180 := hb180.mono hx182.1
  have hA80 := hx182.2 _ _ hA80 (jnot_of rfl)
  have hA88 := hx182.2 _ _ hA88 (jnot_of rfl)
  have hA96 := hx182.2 _ _ hA96 (jnot_of rfl)
  have hA104 := hx182.2 _ _ hA104 (jnot_of rfl)
  have hA112 := hx182.2 _ _ hA112 (jnot_of rfl)
  have hA120 := hx182.2 _ _ hA120 (jnot_of rfl)
  have hA136 := hx182.2 _ _ hA136 (jnot_of rfl)
  have hA144 := hx182.2 _ _ hA144 (jnot_of rfl)
  have hA180 := hx182.2 _ _ hA180 (jnot_of rfl)
  refine J_aload_n dX7_init_185 rfl ?_
  refine J_bipush (v := 36) dX7_init_186 (by decide) ?_
  refine Jc_newa (atype := .int) (t := 30) (B := 36) (x := .inl (fun _ => 0)) jw_ac_int rfl (fun _ h => by cases h) (by decide) dX7_init_188 (by decide) (by decide) (by decide) (fun _ _ => rfl) (fun hN => jok_zI rfl (by decide) (by decide) (fun m h => by cases h <;> rfl) hN) (by decide) (by decide) hW (fun b188 V188 hn188 hb188 hk188 hW hx188 => ?_)
  have hz188 := he.1.none hn188
  have he := he.trans (hx188.sub (jsub_of rfl))
  have hb7 := hb7.mono hx188.1
  have hb15 := hb15.mono hx188.1
  have hb24 := hb24.mono hx188.1
  have hb32 := hb32.mono hx188.1
  have hb40 := hb40.mono hx188.1
  have hb48 := hb48.mono hx188.1
  have hb56 := hb56.mono hx188.1
  have hb64 := hb64.mono hx188.1
  have hb72 := hb72.mono hx188.1
  have hb80 := hb80.mono hx188.1
  have hb88 := hb88.mono hx188.1
  have hb96 := hb96.mono hx188.1
  have hb104 := hb104.mono hx188.1
  have hb112 := hb112.mono hx188.1
  have hb120 := hb120.mono hx188.1
  have hb128 := hb128.mono hx188.1
  have hb136 := hb136.mono hx188.1
  have hb144 := hb144.mono hx188.1
  have hb153 := hb153.mono hx188.1
  have hb162 := hb162.mono hx188.1
  have hb180 := hb180.mono hx188.1
  have hq := hk188 _ _ hq
  have hA80 := hk188 _ _ hA80
  have hA88 := hk188 _ _ hA88
  have hA96 := hk188 _ _ hA96
  have hA104 := hk188 _ _ hA104
  have hA112 := hk188 _ _ hA112
  have hA120 := hk188 _ _ hA120
  have hA136 := hk188 _ _ hA136
  have hA144 := hk188 _ _ hA144
  have hA180 := hk188 _ _ hA180
  refine Jc_putF jf_X7_83 jt_X7_29 rfl (fun _ h => by cases h; rfl) dX7_init_190 hq rfl rfl (Nat.le_of_ble_eq_true rfl) (fun _ h => by cases h) hW (fun V190 hq hW hx190 hB190 => ?_)
  have hq : V190 q = some (.inr (5, [.int 0, .ref b7, .ref b15, .ref b24, .ref b32, .int 0, .ref b40, .ref b48, .ref b56, .ref b64, .ref b72, .ref b80, .ref b88, .ref b96, .ref b104, .ref b112, .ref b120, .ref b128, .ref b136, .ref b144, .ref b153, .ref b162, .int 0, .int 2, .int 2, .ref b180, .int 0, .int 0, .int 0, .ref b188, .null, .null, .null, .null])) := hq
  have he := he.trans (hx190.sub (jsub_of rfl))
  have hb7 := hb7.mono hx190.1
  have hb15 := hb15.mono hx190.1
  have hb24 := hb24.mono hx190.1
  have hb32 := hb32.mono hx190.1
  have hb40 := hb40.mono hx190.1
  have hb48 := hb48.mono hx190.1
  have hb56 := hb56.mono hx190.1
  have hb64 := hb64.mono hx190.1
  have hb72 := hb72.mono hx190.1
  have hb80 := hb80.mono hx190.1
  have hb88 := hb88.mono hx190.1
  have hb96 := hb96.mono hx190.1
  have hb104 := hb104.mono hx190.1
  have hb112 := hb112.mono hx190.1
  have hb120 := hb120.mono hx190.1
  have hb128 := hb128.mono hx190.1
  have hb136 := hb136.mono hx190.1
  have hb144 := hb144.mono hx190.1
  have hb153 := hb153.mono hx190.1
  have hb162 := hb162.mono hx190.1
  have hb180 := hb180.mono hx190.1
  have hb188 := hb188.mono hx190.1
  have hA80 := hx190.2 _ _ hA80 (jnot_of rfl)
  have hA88 := hx190.2 _ _ hA88 (jnot_of rfl)
  have hA96 := hx190.2 _ _ hA96 (jnot_of rfl)
  have hA104 := hx190.2 _ _ hA104 (jnot_of rfl)
  have hA112 := hx190.2 _ _ hA112 (jnot_of rfl)
  have hA120 := hx190.2 _ _ hA120 (jnot_of rfl)
  have hA136 := hx190.2 _ _ hA136 (jnot_of rfl)
  have hA144 := hx190.2 _ _ hA144 (jnot_of rfl)
  have hA180 := hx190.2 _ _ hA180 (jnot_of rfl)
  refine J_aload_n dX7_init_193 rfl ?_
  refine J_bipush (v := 36) dX7_init_194 (by decide) ?_
  refine Jc_newa (atype := .boolean) (t := 44) (B := 36) (x := .inl (fun _ => 0)) jw_ac_boolean rfl (fun _ h => by cases h) (by decide) dX7_init_196 (by decide) (by decide) (by decide) (fun _ _ => rfl) (fun hN => jok_zI rfl (by decide) (by decide) (fun m h => by cases h <;> rfl) hN) (by decide) (by decide) hW (fun b196 V196 hn196 hb196 hk196 hW hx196 => ?_)
  have hz196 := he.1.none hn196
  have he := he.trans (hx196.sub (jsub_of rfl))
  have hb7 := hb7.mono hx196.1
  have hb15 := hb15.mono hx196.1
  have hb24 := hb24.mono hx196.1
  have hb32 := hb32.mono hx196.1
  have hb40 := hb40.mono hx196.1
  have hb48 := hb48.mono hx196.1
  have hb56 := hb56.mono hx196.1
  have hb64 := hb64.mono hx196.1
  have hb72 := hb72.mono hx196.1
  have hb80 := hb80.mono hx196.1
  have hb88 := hb88.mono hx196.1
  have hb96 := hb96.mono hx196.1
  have hb104 := hb104.mono hx196.1
  have hb112 := hb112.mono hx196.1
  have hb120 := hb120.mono hx196.1
  have hb128 := hb128.mono hx196.1
  have hb136 := hb136.mono hx196.1
  have hb144 := hb144.mono hx196.1
  have hb153 := hb153.mono hx196.1
  have hb162 := hb162.mono hx196.1
  have hb180 := hb180.mono hx196.1
  have hb188 := hb188.mono hx196.1
  have hq := hk196 _ _ hq
  have hA80 := hk196 _ _ hA80
  have hA88 := hk196 _ _ hA88
  have hA96 := hk196 _ _ hA96
  have hA104 := hk196 _ _ hA104
  have hA112 := hk196 _ _ hA112
  have hA120 := hk196 _ _ hA120
  have hA136 := hk196 _ _ hA136
  have hA144 := hk196 _ _ hA144
  have hA180 := hk196 _ _ hA180
  refine Jc_putF jf_X7_86 jt_X7_30 rfl (fun _ h => by cases h; rfl) dX7_init_198 hq rfl rfl (Nat.le_of_ble_eq_true rfl) (fun _ h => by cases h) hW (fun V198 hq hW hx198 hB198 => ?_)
  have hq : V198 q = some (.inr (5, [.int 0, .ref b7, .ref b15, .ref b24, .ref b32, .int 0, .ref b40, .ref b48, .ref b56, .ref b64, .ref b72, .ref b80, .ref b88, .ref b96, .ref b104, .ref b112, .ref b120, .ref b128, .ref b136, .ref b144, .ref b153, .ref b162, .int 0, .int 2, .int 2, .ref b180, .int 0, .int 0, .int 0, .ref b188, .ref b196, .null, .null, .null])) := hq
  have he := he.trans (hx198.sub (jsub_of rfl))
  have hb7 := hb7.mono hx198.1
  have hb15 := hb15.mono hx198.1
  have hb24 := hb24.mono hx198.1
  have hb32 := hb32.mono hx198.1
  have hb40 := hb40.mono hx198.1
  have hb48 := hb48.mono hx198.1
  have hb56 := hb56.mono hx198.1
  have hb64 := hb64.mono hx198.1
  have hb72 := hb72.mono hx198.1
  have hb80 := hb80.mono hx198.1
  have hb88 := hb88.mono hx198.1
  have hb96 := hb96.mono hx198.1
  have hb104 := hb104.mono hx198.1
  have hb112 := hb112.mono hx198.1
  have hb120 := hb120.mono hx198.1
  have hb128 := hb128.mono hx198.1
  have hb136 := hb136.mono hx198.1
  have hb144 := hb144.mono hx198.1
  have hb153 := hb153.mono hx198.1
  have hb162 := hb162.mono hx198.1
  have hb180 := hb180.mono hx198.1
  have hb188 := hb188.mono hx198.1
  have hb196 := hb196.mono hx198.1
  have hA80 := hx198.2 _ _ hA80 (jnot_of rfl)
  have hA88 := hx198.2 _ _ hA88 (jnot_of rfl)
  have hA96 := hx198.2 _ _ hA96 (jnot_of rfl)
  have hA104 := hx198.2 _ _ hA104 (jnot_of rfl)
  have hA112 := hx198.2 _ _ hA112 (jnot_of rfl)
  have hA120 := hx198.2 _ _ hA120 (jnot_of rfl)
  have hA136 := hx198.2 _ _ hA136 (jnot_of rfl)
  have hA144 := hx198.2 _ _ hA144 (jnot_of rfl)
  have hA180 := hx198.2 _ _ hA180 (jnot_of rfl)
  refine J_aload_n dX7_init_201 rfl ?_
  refine J_bipush (v := 37) dX7_init_202 (by decide) ?_
  refine Jc_newa (atype := .int) (t := 31) (B := 37) (x := .inl (fun _ => 0)) jw_ac_int rfl (fun _ h => by cases h) (by decide) dX7_init_204 (by decide) (by decide) (by decide) (fun _ _ => rfl) (fun hN => jok_zI rfl (by decide) (by decide) (fun m h => by cases h <;> rfl) hN) (by decide) (by decide) hW (fun b204 V204 hn204 hb204 hk204 hW hx204 => ?_)
  have hz204 := he.1.none hn204
  have he := he.trans (hx204.sub (jsub_of rfl))
  have hb7 := hb7.mono hx204.1
  have hb15 := hb15.mono hx204.1
  have hb24 := hb24.mono hx204.1
  have hb32 := hb32.mono hx204.1
  have hb40 := hb40.mono hx204.1
  have hb48 := hb48.mono hx204.1
  have hb56 := hb56.mono hx204.1
  have hb64 := hb64.mono hx204.1
  have hb72 := hb72.mono hx204.1
  have hb80 := hb80.mono hx204.1
  have hb88 := hb88.mono hx204.1
  have hb96 := hb96.mono hx204.1
  have hb104 := hb104.mono hx204.1
  have hb112 := hb112.mono hx204.1
  have hb120 := hb120.mono hx204.1
  have hb128 := hb128.mono hx204.1
  have hb136 := hb136.mono hx204.1
  have hb144 := hb144.mono hx204.1
  have hb153 := hb153.mono hx204.1
  have hb162 := hb162.mono hx204.1
  have hb180 := hb180.mono hx204.1
  have hb188 := hb188.mono hx204.1
  have hb196 := hb196.mono hx204.1
  have hq := hk204 _ _ hq
  have hA80 := hk204 _ _ hA80
  have hA88 := hk204 _ _ hA88
  have hA96 := hk204 _ _ hA96
  have hA104 := hk204 _ _ hA104
  have hA112 := hk204 _ _ hA112
  have hA120 := hk204 _ _ hA120
  have hA136 := hk204 _ _ hA136
  have hA144 := hk204 _ _ hA144
  have hA180 := hk204 _ _ hA180
  refine Jc_putF jf_X7_89 jt_X7_31 rfl (fun _ h => by cases h; rfl) dX7_init_206 hq rfl rfl (Nat.le_of_ble_eq_true rfl) (fun _ h => by cases h) hW (fun V206 hq hW hx206 hB206 => ?_)
  have hq : V206 q = some (.inr (5, [.int 0, .ref b7, .ref b15, .ref b24, .ref b32, .int 0, .ref b40, .ref b48, .ref b56, .ref b64, .ref b72, .ref b80, .ref b88, .ref b96, .ref b104, .ref b112, .ref b120, .ref b128, .ref b136, .ref b144, .ref b153, .ref b162, .int 0, .int 2, .int 2, .ref b180, .int 0, .int 0, .int 0, .ref b188, .ref b196, .ref b204, .null, .null])) := hq
  have he := he.trans (hx206.sub (jsub_of rfl))
  have hb7 := hb7.mono hx206.1
  have hb15 := hb15.mono hx206.1
  have hb24 := hb24.mono hx206.1
  have hb32 := hb32.mono hx206.1
  have hb40 := hb40.mono hx206.1
  have hb48 := hb48.mono hx206.1
  have hb56 := hb56.mono hx206.1
  have hb64 := hb64.mono hx206.1
  have hb72 := hb72.mono hx206.1
  have hb80 := hb80.mono hx206.1
  have hb88 := hb88.mono hx206.1
  have hb96 := hb96.mono hx206.1
  have hb104 := hb104.mono hx206.1
  have hb112 := hb112.mono hx206.1
  have hb120 := hb120.mono hx206.1
  have hb128 := hb128.mono hx206.1
  have hb136 := hb136.mono hx206.1
  have hb144 := hb144.mono hx206.1
  have hb153 := hb153.mono hx206.1
  have hb162 := hb162.mono hx206.1
  have hb180 := hb180.mono hx206.1
  have hb188 := hb188.mono hx206.1
  have hb196 := hb196.mono hx206.1
  have hb204 := hb204.mono hx206.1
  have hA80 := hx206.2 _ _ hA80 (jnot_of rfl)
  have hA88 := hx206.2 _ _ hA88 (jnot_of rfl)
  have hA96 := hx206.2 _ _ hA96 (jnot_of rfl)
  have hA104 := hx206.2 _ _ hA104 (jnot_of rfl)
  have hA112 := hx206.2 _ _ hA112 (jnot_of rfl)
  have hA120 := hx206.2 _ _ hA120 (jnot_of rfl)
  have hA136 := hx206.2 _ _ hA136 (jnot_of rfl)
  have hA144 := hx206.2 _ _ hA144 (jnot_of rfl)
  have hA180 := hx206.2 _ _ hA180 (jnot_of rfl)
  refine J_aload_n dX7_init_209 rfl ?_
  refine J_bipush (v := 37) dX7_init_210 (by decide) ?_
  refine Jc_newa (atype := .int) (t := 32) (B := 37) (x := .inl (fun _ => 0)) jw_ac_int rfl (fun _ h => by cases h) (by decide) dX7_init_212 (by decide) (by decide) (by decide) (fun _ _ => rfl) (fun hN => jok_zI rfl (by decide) (by decide) (fun m h => by cases h <;> rfl) hN) (by decide) (by decide) hW (fun b212 V212 hn212 hb212 hk212 hW hx212 => ?_)
  have hz212 := he.1.none hn212
  have he := he.trans (hx212.sub (jsub_of rfl))
  have hb7 := hb7.mono hx212.1
  have hb15 := hb15.mono hx212.1
  have hb24 := hb24.mono hx212.1
  have hb32 := hb32.mono hx212.1
  have hb40 := hb40.mono hx212.1
  have hb48 := hb48.mono hx212.1
  have hb56 := hb56.mono hx212.1
  have hb64 := hb64.mono hx212.1
  have hb72 := hb72.mono hx212.1
  have hb80 := hb80.mono hx212.1
  have hb88 := hb88.mono hx212.1
  have hb96 := hb96.mono hx212.1
  have hb104 := hb104.mono hx212.1
  have hb112 := hb112.mono hx212.1
  have hb120 := hb120.mono hx212.1
  have hb128 := hb128.mono hx212.1
  have hb136 := hb136.mono hx212.1
  have hb144 := hb144.mono hx212.1
  have hb153 := hb153.mono hx212.1
  have hb162 := hb162.mono hx212.1
  have hb180 := hb180.mono hx212.1
  have hb188 := hb188.mono hx212.1
  have hb196 := hb196.mono hx212.1
  have hb204 := hb204.mono hx212.1
  have hq := hk212 _ _ hq
  have hA80 := hk212 _ _ hA80
  have hA88 := hk212 _ _ hA88
  have hA96 := hk212 _ _ hA96
  have hA104 := hk212 _ _ hA104
  have hA112 := hk212 _ _ hA112
  have hA120 := hk212 _ _ hA120
  have hA136 := hk212 _ _ hA136
  have hA144 := hk212 _ _ hA144
  have hA180 := hk212 _ _ hA180
  refine Jc_putF jf_X7_92 jt_X7_32 rfl (fun _ h => by cases h; rfl) dX7_init_214 hq rfl rfl (Nat.le_of_ble_eq_true rfl) (fun _ h => by cases h) hW (fun V214 hq hW hx214 hB214 => ?_)
  have hq : V214 q = some (.inr (5, [.int 0, .ref b7, .ref b15, .ref b24, .ref b32, .int 0, .ref b40, .ref b48, .ref b56, .ref b64, .ref b72, .ref b80, .ref b88, .ref b96, .ref b104, .ref b112, .ref b120, .ref b128, .ref b136, .ref b144, .ref b153, .ref b162, .int 0, .int 2, .int 2, .ref b180, .int 0, .int 0, .int 0, .ref b188, .ref b196, .ref b204, .ref b212, .null])) := hq
  have he := he.trans (hx214.sub (jsub_of rfl))
  have hb7 := hb7.mono hx214.1
  have hb15 := hb15.mono hx214.1
  have hb24 := hb24.mono hx214.1
  have hb32 := hb32.mono hx214.1
  have hb40 := hb40.mono hx214.1
  have hb48 := hb48.mono hx214.1
  have hb56 := hb56.mono hx214.1
  have hb64 := hb64.mono hx214.1
  have hb72 := hb72.mono hx214.1
  have hb80 := hb80.mono hx214.1
  have hb88 := hb88.mono hx214.1
  have hb96 := hb96.mono hx214.1
  have hb104 := hb104.mono hx214.1
  have hb112 := hb112.mono hx214.1
  have hb120 := hb120.mono hx214.1
  have hb128 := hb128.mono hx214.1
  have hb136 := hb136.mono hx214.1
  have hb144 := hb144.mono hx214.1
  have hb153 := hb153.mono hx214.1
  have hb162 := hb162.mono hx214.1
  have hb180 := hb180.mono hx214.1
  have hb188 := hb188.mono hx214.1
  have hb196 := hb196.mono hx214.1
  have hb204 := hb204.mono hx214.1
  have hb212 := hb212.mono hx214.1
  have hA80 := hx214.2 _ _ hA80 (jnot_of rfl)
  have hA88 := hx214.2 _ _ hA88 (jnot_of rfl)
  have hA96 := hx214.2 _ _ hA96 (jnot_of rfl)
  have hA104 := hx214.2 _ _ hA104 (jnot_of rfl)
  have hA112 := hx214.2 _ _ hA112 (jnot_of rfl)
  have hA120 := hx214.2 _ _ hA120 (jnot_of rfl)
  have hA136 := hx214.2 _ _ hA136 (jnot_of rfl)
  have hA144 := hx214.2 _ _ hA144 (jnot_of rfl)
  have hA180 := hx214.2 _ _ hA180 (jnot_of rfl)
  refine J_aload_n dX7_init_217 rfl ?_
  refine J_bipush (v := 36) dX7_init_218 (by decide) ?_
  refine Jc_newa (atype := .int) (t := 33) (B := 36) (x := .inl (fun _ => 0)) jw_ac_int rfl (fun _ h => by cases h) (by decide) dX7_init_220 (by decide) (by decide) (by decide) (fun _ _ => rfl) (fun hN => jok_zI rfl (by decide) (by decide) (fun m h => by cases h <;> rfl) hN) (by decide) (by decide) hW (fun b220 V220 hn220 hb220 hk220 hW hx220 => ?_)
  have hz220 := he.1.none hn220
  have he := he.trans (hx220.sub (jsub_of rfl))
  have hb7 := hb7.mono hx220.1
  have hb15 := hb15.mono hx220.1
  have hb24 := hb24.mono hx220.1
  have hb32 := hb32.mono hx220.1
  have hb40 := hb40.mono hx220.1
  have hb48 := hb48.mono hx220.1
  have hb56 := hb56.mono hx220.1
  have hb64 := hb64.mono hx220.1
  have hb72 := hb72.mono hx220.1
  have hb80 := hb80.mono hx220.1
  have hb88 := hb88.mono hx220.1
  have hb96 := hb96.mono hx220.1
  have hb104 := hb104.mono hx220.1
  have hb112 := hb112.mono hx220.1
  have hb120 := hb120.mono hx220.1
  have hb128 := hb128.mono hx220.1
  have hb136 := hb136.mono hx220.1
  have hb144 := hb144.mono hx220.1
  have hb153 := hb153.mono hx220.1
  have hb162 := hb162.mono hx220.1
  have hb180 := hb180.mono hx220.1
  have hb188 := hb188.mono hx220.1
  have hb196 := hb196.mono hx220.1
  have hb204 := hb204.mono hx220.1
  have hb212 := hb212.mono hx220.1
  have hq := hk220 _ _ hq
  have hA80 := hk220 _ _ hA80
  have hA88 := hk220 _ _ hA88
  have hA96 := hk220 _ _ hA96
  have hA104 := hk220 _ _ hA104
  have hA112 := hk220 _ _ hA112
  have hA120 := hk220 _ _ hA120
  have hA136 := hk220 _ _ hA136
  have hA144 := hk220 _ _ hA144
  have hA180 := hk220 _ _ hA180
  refine Jc_putF jf_X7_95 jt_X7_33 rfl (fun _ h => by cases h; rfl) dX7_init_222 hq rfl rfl (Nat.le_of_ble_eq_true rfl) (fun _ h => by cases h) hW (fun V222 hq hW hx222 hB222 => ?_)
  have hq : V222 q = some (.inr (5, [.int 0, .ref b7, .ref b15, .ref b24, .ref b32, .int 0, .ref b40, .ref b48, .ref b56, .ref b64, .ref b72, .ref b80, .ref b88, .ref b96, .ref b104, .ref b112, .ref b120, .ref b128, .ref b136, .ref b144, .ref b153, .ref b162, .int 0, .int 2, .int 2, .ref b180, .int 0, .int 0, .int 0, .ref b188, .ref b196, .ref b204, .ref b212, .ref b220])) := hq
  have he := he.trans (hx222.sub (jsub_of rfl))
  have hb7 := hb7.mono hx222.1
  have hb15 := hb15.mono hx222.1
  have hb24 := hb24.mono hx222.1
  have hb32 := hb32.mono hx222.1
  have hb40 := hb40.mono hx222.1
  have hb48 := hb48.mono hx222.1
  have hb56 := hb56.mono hx222.1
  have hb64 := hb64.mono hx222.1
  have hb72 := hb72.mono hx222.1
  have hb80 := hb80.mono hx222.1
  have hb88 := hb88.mono hx222.1
  have hb96 := hb96.mono hx222.1
  have hb104 := hb104.mono hx222.1
  have hb112 := hb112.mono hx222.1
  have hb120 := hb120.mono hx222.1
  have hb128 := hb128.mono hx222.1
  have hb136 := hb136.mono hx222.1
  have hb144 := hb144.mono hx222.1
  have hb153 := hb153.mono hx222.1
  have hb162 := hb162.mono hx222.1
  have hb180 := hb180.mono hx222.1
  have hb188 := hb188.mono hx222.1
  have hb196 := hb196.mono hx222.1
  have hb204 := hb204.mono hx222.1
  have hb212 := hb212.mono hx222.1
  have hb220 := hb220.mono hx222.1
  have hA80 := hx222.2 _ _ hA80 (jnot_of rfl)
  have hA88 := hx222.2 _ _ hA88 (jnot_of rfl)
  have hA96 := hx222.2 _ _ hA96 (jnot_of rfl)
  have hA104 := hx222.2 _ _ hA104 (jnot_of rfl)
  have hA112 := hx222.2 _ _ hA112 (jnot_of rfl)
  have hA120 := hx222.2 _ _ hA120 (jnot_of rfl)
  have hA136 := hx222.2 _ _ hA136 (jnot_of rfl)
  have hA144 := hx222.2 _ _ hA144 (jnot_of rfl)
  have hA180 := hx222.2 _ _ hA180 (jnot_of rfl)
  exact J_ret (r := none) dX7_init_225 ⟨rfl, rfl⟩ (⟨rfl, hW.fin hq (jokO_cons ⟨_, rfl, by first | decide | assumption | omega, by first | decide | assumption | omega⟩ (jokO_cons ⟨_, rfl, hb7⟩ (jokO_cons ⟨_, rfl, hb15⟩ (jokO_cons ⟨_, rfl, hb24⟩ (jokO_cons ⟨_, rfl, hb32⟩ (jokO_cons ⟨_, rfl, by first | decide | assumption | omega, by first | decide | assumption | omega⟩ (jokO_cons ⟨_, rfl, hb40⟩ (jokO_cons ⟨_, rfl, hb48⟩ (jokO_cons ⟨_, rfl, hb56⟩ (jokO_cons ⟨_, rfl, hb64⟩ (jokO_cons ⟨_, rfl, hb72⟩ (jokO_cons ⟨_, rfl, hb80⟩ (jokO_cons ⟨_, rfl, hb88⟩ (jokO_cons ⟨_, rfl, hb96⟩ (jokO_cons ⟨_, rfl, hb104⟩ (jokO_cons ⟨_, rfl, hb112⟩ (jokO_cons ⟨_, rfl, hb120⟩ (jokO_cons ⟨_, rfl, hb128⟩ (jokO_cons ⟨_, rfl, hb136⟩ (jokO_cons ⟨_, rfl, hb144⟩ (jokO_cons ⟨_, rfl, hb153⟩ (jokO_cons ⟨_, rfl, hb162⟩ (jokO_cons ⟨_, rfl, (j_rng _).1, (j_rng _).2⟩ (jokO_cons ⟨_, rfl, by first | decide | assumption | omega, by first | decide | assumption | omega⟩ (jokO_cons ⟨_, rfl, by first | decide | assumption | omega, by first | decide | assumption | omega⟩ (jokO_cons ⟨_, rfl, hb180⟩ (jokO_cons ⟨_, rfl, by first | decide | assumption | omega, by first | decide | assumption | omega⟩ (jokO_cons ⟨_, rfl, by first | decide | assumption | omega, by first | decide | assumption | omega⟩ (jokO_cons ⟨_, rfl, (j_rng _).1, (j_rng _).2⟩ (jokO_cons ⟨_, rfl, hb188⟩ (jokO_cons ⟨_, rfl, hb196⟩ (jokO_cons ⟨_, rfl, hb204⟩ (jokO_cons ⟨_, rfl, hb212⟩ (jokO_cons ⟨_, rfl, hb220⟩ (jokO_nil))))))))))))))))))))))))))))))))))), he, ⟨_, hq, rfl⟩, ⟨_, hq, rfl⟩, ⟨_, hq, rfl⟩, ⟨_, hq, rfl⟩, ⟨_, _, hq, rfl, hA180⟩, jRM.init hq rfl rfl rfl rfl rfl rfl hA80 hA88 hA96 hA104 hA112 hA120, jRF.init hq rfl rfl hA136 hA144⟩)
