set_option maxRecDepth 100000 in
set_option maxHeartbeats 4000000 in
theorem w_X6_init_t {tS : jTS} (d : Nat) (V0 : jH) (q : Nat)  (hd : 4 ≤ d) (hW : WTx (fun a => False ∨ a = q) V0) (hq : V0 q = some (.inr (4, [.null, .int 0, .null, .null, .null, .null, .null])))   : jTot tS mX6_init d [.ref q] V0 11 676 (fun r V => r = none ∧ WTx (fun _ => False) V ∧ jeff [.inr 4, .inr 1, .inr 0] V0 V ∧ jis V (.inr 4) q ∧ jfI V q 4 1 0 ∧ (jpx V q ∧ jtx V q ∧ jff V q ∧ jTL V q ∧ jTF V q)) := by
  refine jTot.of_J [some (.ref q)] moX6_init (Nat.le_of_ble_eq_true rfl) rfl ?_
  have he : jeff [.inr 4, .inr 1, .inr 0] V0 V0 := jeff.refl _ _
  refine J_aload_n dX6_init_0 rfl ?_
  refine J_objInit jw_ml_X6_1 jw_oi2 jw_oi3 dX6_init_1 (by omega) (Nat.le_of_ble_eq_true rfl) ?_
  refine J_aload_n dX6_init_4 rfl ?_
  refine J_bipush (v := 16) dX6_init_5 (by decide) ?_
  refine Jc_newq (N := 16) jw_cl_X6_9 (by decide) (t := 4) rfl dX6_init_7 (by decide) (by decide) (by decide) (jok_zR rfl (fun m h => by cases h <;> rfl) (by decide)) (by decide) (by decide) hW (fun b7 V7 hn7 hb7 hk7 hW hx7 => ?_)
  have hz7 := he.1.none hn7
  have he := he.trans (hx7.sub (jsub_of rfl))
  have hq := hk7 _ _ hq
  refine Jc_putF jf_X6_11 jt_X6_0 rfl (fun _ h => by cases h; rfl) dX6_init_10 hq rfl rfl (Nat.le_of_ble_eq_true rfl) (fun _ h => by cases h) hW (fun V10 hq hW hx10 hB10 => ?_)
  have he := he.trans (hx10.sub (jsub_of rfl))
  have hb7 := hb7.mono hx10.1
  refine J_aload_n dX6_init_13 rfl ?_
  refine J_iconst (v := 0) dX6_init_14 (by decide) ?_
  refine Jc_put jf_X6_15 jt_X6_1 dX6_init_15 hq rfl rfl (Nat.le_of_ble_eq_true rfl) (fun _ h => by cases h) hW (fun V15 hq hW hx15 hB15 => ?_)
  have he := he.trans (hx15.sub (jsub_of rfl))
  have hb7 := hb7.mono hx15.1
  refine J_aload_n dX6_init_18 rfl ?_
  refine Jc_new jn_X6_9 dX6_init_19 (by decide) (by decide) hW (fun q19 V19 hn19 hQ19 hk19 hW hx19 => ?_)
  have hne19 : q19 ≠ q := fun z => by rw [z, hq] at hn19; cases hn19
  have hz19 := he.1.none hn19
  have he := he.trans (hx19.sub (jsub_of rfl))
  have hb7 := hb7.mono hx19.1
  have hq := hk19 _ _ hq
  refine J_dup dX6_init_22 rfl ?_
  refine J_bipush (v := 120) dX6_init_23 (by decide) ?_
  refine J_callI1 moX3_init rfl rfl jw_ml_X6_19 jw_im_X3_init dX6_init_25 (w_X3_init (d - 1) _ (fun a => False ∨ a = q) _ _ (by omega) hW hQ19 (fun z => z.elim id hne19) ) (by omega) (by decide) (by decide) (Nat.le_of_ble_eq_true rfl) (fun r25 V25 h25 => ?_)
  obtain ⟨rfl, hW, hx25, hj25, hxc25⟩ := h25
  have he := he.trans (hx25.sub (jsub_of rfl))
  have hb7 := hb7.mono hx25.1
  have hq := hx25.2 _ _ hq (jnot_of rfl)
  obtain ⟨s9, x9, y9, z9, -, hjw, -⟩ := hxc25
  rw [show (jmost 120).toInt.toNat = 120 by decide] at hjw
  refine Jc_putF jf_X6_22 jt_X6_2 rfl (fun _ h => by cases h; rfl) dX6_init_28 hq rfl rfl (Nat.le_of_ble_eq_true rfl) (fun _ h => by cases h) hW (fun V28 hq hW hx28 hB28 => ?_)
  have he := he.trans (hx28.sub (jsub_of rfl))
  have hb7 := hb7.mono hx28.1
  have hj25 := hj25.mono hx28.1
  refine J_aload_n dX6_init_31 rfl ?_
  refine J_bipush (v := 60) dX6_init_32 (by decide) ?_
  refine Jc_newa (atype := .int) (t := 7) (B := 60) (x := .inl (fun _ => 0)) jw_ac_int rfl (fun _ h => by cases h) (by decide) dX6_init_34 (by decide) (by decide) (by decide) (fun _ _ => rfl) (fun hN => jok_zI rfl (by decide) (by decide) (fun m h => by cases h <;> rfl) hN) (by decide) (by decide) hW (fun b34 V34 hn34 hb34 hk34 hW hx34 => ?_)
  have hz34 := he.1.none hn34
  have he := he.trans (hx34.sub (jsub_of rfl))
  have hb7 := hb7.mono hx34.1
  have hj25 := hj25.mono hx34.1
  have hq := hk34 _ _ hq
  refine Jc_putF jf_X6_26 jt_X6_3 rfl (fun _ h => by cases h; rfl) dX6_init_36 hq rfl rfl (Nat.le_of_ble_eq_true rfl) (fun _ h => by cases h) hW (fun V36 hq hW hx36 hB36 => ?_)
  have he := he.trans (hx36.sub (jsub_of rfl))
  have hb7 := hb7.mono hx36.1
  have hj25 := hj25.mono hx36.1
  have hb34 := hb34.mono hx36.1
  refine J_aload_n dX6_init_39 rfl ?_
  refine J_bipush (v := 60) dX6_init_40 (by decide) ?_
  obtain ⟨e34, h34e, -⟩ := id hb34
  refine Jc_newa (atype := .int) (t := 7) (B := 60) (x := .inl (fun _ => 0)) jw_ac_int rfl (fun _ h => by cases h) (by decide) dX6_init_42 (by decide) (by decide) (by decide) (fun _ _ => rfl) (fun hN => jok_zI rfl (by decide) (by decide) (fun m h => by cases h <;> rfl) hN) (by decide) (by decide) hW (fun b42 V42 hn42 hb42 hk42 hW hx42 => ?_)
  have hz42 := he.1.none hn42
  have he := he.trans (hx42.sub (jsub_of rfl))
  have hb7 := hb7.mono hx42.1
  have hj25 := hj25.mono hx42.1
  have hb34 := hb34.mono hx42.1
  have hq := hk42 _ _ hq
  have hne9 : b34 ≠ b42 := fun z => by rw [z, hn42] at h34e; cases h34e
  refine Jc_putF jf_X6_30 jt_X6_4 rfl (fun _ h => by cases h; rfl) dX6_init_44 hq rfl rfl (Nat.le_of_ble_eq_true rfl) (fun _ h => by cases h) hW (fun V44 hq hW hx44 hB44 => ?_)
  have he := he.trans (hx44.sub (jsub_of rfl))
  have hb7 := hb7.mono hx44.1
  have hj25 := hj25.mono hx44.1
  have hb34 := hb34.mono hx44.1
  have hb42 := hb42.mono hx44.1
  refine J_aload_n dX6_init_47 rfl ?_
  refine J_iconst (v := 4) dX6_init_48 (by decide) ?_
  refine Jc_newqx (N := 4) jw_cl_X6_33 (by decide) (t := 5) rfl dX6_init_49 (by decide) (by decide) (by decide) (jok_zR rfl (fun m h => by cases h <;> rfl) (by decide)) (by decide) (by decide) hW (fun b49 V49 hn49 hb49 hk49 hW hx49 hA49 => ?_)
  have hz49 := he.1.none hn49
  have he := he.trans (hx49.sub (jsub_of rfl))
  have hb7 := hb7.mono hx49.1
  have hj25 := hj25.mono hx49.1
  have hb34 := hb34.mono hx49.1
  have hb42 := hb42.mono hx49.1
  have hq := hk49 _ _ hq
  refine Jc_putF jf_X6_35 jt_X6_5 rfl (fun _ h => by cases h; rfl) dX6_init_52 hq rfl rfl (Nat.le_of_ble_eq_true rfl) (fun _ h => by cases h) hW (fun V52 hq hW hx52 hB52 => ?_)
  have he := he.trans (hx52.sub (jsub_of rfl))
  have hb7 := hb7.mono hx52.1
  have hj25 := hj25.mono hx52.1
  have hb34 := hb34.mono hx52.1
  have hb42 := hb42.mono hx52.1
  have hb49 := hb49.mono hx52.1
  have hA49 := hx52.2 _ _ hA49 (jnot_of rfl)
  refine J_aload_n dX6_init_55 rfl ?_
  refine Jc_new jn_X6_39 dX6_init_56 (by decide) (by decide) hW (fun q56 V56 hn56 hQ56 hk56 hW hx56 => ?_)
  have hne56 : q56 ≠ q := fun z => by rw [z, hq] at hn56; cases hn56
  have hz56 := he.1.none hn56
  have he := he.trans (hx56.sub (jsub_of rfl))
  have hb7 := hb7.mono hx56.1
  have hj25 := hj25.mono hx56.1
  have hb34 := hb34.mono hx56.1
  have hb42 := hb42.mono hx56.1
  have hb49 := hb49.mono hx56.1
  have hq := hk56 _ _ hq
  have hA49 := hk56 _ _ hA49
  refine J_dup dX6_init_59 rfl ?_
  refine J_callI0 moX2_init rfl rfl jw_ml_X6_41 jw_im_X2_init dX6_init_60 (w_X2_init (d - 1) _ (fun a => False ∨ a = q) _ (by omega) hW hQ56 (fun z => z.elim id hne56) ) (by omega) (by decide) (by decide) (Nat.le_of_ble_eq_true rfl) (fun r60 V60 h60 => ?_)
  obtain ⟨rfl, hW, hx60, hj60, hxc60⟩ := h60
  have he := he.trans (hx60.sub (jsub_of rfl))
  have hb7 := hb7.mono hx60.1
  have hj25 := hj25.mono hx60.1
  have hb34 := hb34.mono hx60.1
  have hb42 := hb42.mono hx60.1
  have hb49 := hb49.mono hx60.1
  have hA49 := hx60.2 _ _ hA49 (jnot_of rfl)
  have hq := hx60.2 _ _ hq (jnot_of rfl)
  refine Jc_putF jf_X6_42 jt_X6_6 rfl (fun _ h => by cases h; rfl) dX6_init_63 hq rfl rfl (Nat.le_of_ble_eq_true rfl) (fun _ h => by cases h) hW (fun V63 hq hW hx63 hB63 => ?_)
  have he := he.trans (hx63.sub (jsub_of rfl))
  have hb7 := hb7.mono hx63.1
  have hj25 := hj25.mono hx63.1
  have hb34 := hb34.mono hx63.1
  have hb42 := hb42.mono hx63.1
  have hb49 := hb49.mono hx63.1
  have hj60 := hj60.mono hx63.1
  have hA49 := hx63.2 _ _ hA49 (jnot_of rfl)
  exact J_ret (r := none) dX6_init_66 ⟨rfl, rfl⟩ (⟨rfl, hW.fin hq (jokO_cons ⟨_, rfl, hb7⟩ (jokO_cons ⟨_, rfl, by first | decide | assumption | omega, by first | decide | assumption | omega⟩ (jokO_cons ⟨_, rfl, hj25⟩ (jokO_cons ⟨_, rfl, hb34⟩ (jokO_cons ⟨_, rfl, hb42⟩ (jokO_cons ⟨_, rfl, hb49⟩ (jokO_cons ⟨_, rfl, hj60⟩ (jokO_nil)))))))), he, ⟨_, hq, rfl⟩, ⟨_, hq, rfl⟩, ⟨⟨_, _, hq, rfl, hxc60.keep hx63 (jnot_of rfl)⟩, ⟨q19, s9, x9, y9, z9, ⟨_, hq, rfl⟩, ((((((((((hjw.keep hx28 (jdis_of rfl)).keep hx34 (jdis_of rfl)).keep hx36 (jdis_of rfl)).keep hx42 (jdis_of rfl)).keep hx44 (jdis_of rfl)).keep hx49 (jdis_of rfl)).keep hx52 (jdis_of rfl)).keep hx56 (jdis_of rfl)).keep hx60 (jdis_of rfl)).keep hx63 (jdis_of rfl))⟩, ⟨b34, b42, ⟨_, hq, rfl⟩, ⟨_, hq, rfl⟩, hne9⟩, jTL.init hq rfl hA49, jTF.init hq rfl hA49⟩⟩)
