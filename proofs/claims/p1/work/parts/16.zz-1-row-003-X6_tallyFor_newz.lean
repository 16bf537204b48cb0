set_option maxRecDepth 100000 in
set_option maxHeartbeats 4000000 in
theorem w_X6_tallyFor_newz {tS : jTS} (d : Nat) (V0 : jH) (a0 : Nat) (x1 : Int32) (x2 : Int32) (x3 : Int32) (fs : List Value) (tl : Nat) (f : Nat → Option Nat) (j : Nat) (hd : 2 ≤ d) (hW : WT V0) (ha0 : jis V0 (.inr 4) a0) (hx : V0 a0 = some (.inr (4, fs))) (h5 : fs[5]? = some (.ref tl)) (htl : V0 tl = some (.inl (5, 4, .inr (.inr (.inr (.inr f)))))) (hg : x1 = nI j) (hj : j < 4) (hf : f j = none) (hb1 : ¬ x1 < 0) (hb2 : ¬ Int32.ofNat 4 ≤ x1) (hb3 : ¬ x2 < x3) (hb4 : x2 ≤ 20) : jTot tS mX6_tallyFor d [.ref a0, .int x1, .int x2, .int x3] V0 8 15738 (fun r V => ∃ t : Nat, r = some (.ref t) ∧ WT V ∧ jeff [.inl 5, .inr 2] V0 V ∧ jis V (.inr 2) t ∧ V tl = some (.inl (5, 4, .inr (.inr (.inr (.inr (va_up f j (some t))))))) ∧ jtm V0 V tl t (j : Int)) := by
  refine jTot.of_J [some (.ref a0), some (.int x1), some (.int x2), some (.int x3), none] moX6_tallyFor (Nat.le_of_ble_eq_true rfl) rfl ?_
  have he : jeff [.inl 5, .inr 2] V0 V0 := jeff.refl _ _
  have hKx : jokO V0 (jFs 4) fs := hW _ _ id hx
  have htlk : jis V0 (.inl 5) tl := ⟨_, htl, rfl⟩
  have hN4 : (4 : Nat) < 2 ^ 31 := by decide
  have hvt : ∀ (j b : Nat), j < 4 → f j = some b → jis V0 (.inr 2) b := by
    obtain ⟨n9, f9, h91, h92, h93, h94⟩ := WT_arrR hW id rfl htlk
    cases htl.symm.trans h91
    exact h94
  have htl0 := htl
  have hgj : x1.toInt = (j : Int) := by rw [hg]; exact nI_toInt (by omega)
  have hg0 : 0 ≤ x1.toInt := by omega
  have hg3 : x1.toInt ≤ 3 := by omega
  refine J_iload_n dX6_tallyFor_0 rfl ?_
  refine J_if_lt (tgt := 24) dX6_tallyFor_1 (by decide) (fun c1 => ?_) (fun c1 => ?_)
  · exact False.elim (by first | exact hb1 c1 | exact hb2 c10 | exact hb3 c15 | exact c21 hb4)
  · refine J_iload_n dX6_tallyFor_4 rfl ?_
    refine J_aload_n dX6_tallyFor_5 rfl ?_
    refine J_get jf_X6_35 dX6_tallyFor_6 hx h5 ?_
    refine J_alen (v := Int32.ofNat 4) dX6_tallyFor_9 htl rfl rfl ?_
    refine J_icmp_ge (tgt := 24) dX6_tallyFor_10 (by decide) (fun c10 => ?_) (fun c10 => ?_)
    · exact False.elim (by first | exact hb1 c1 | exact hb2 c10 | exact hb3 c15 | exact c21 hb4)
    · refine J_iload_n dX6_tallyFor_13 rfl ?_
      refine J_iload_n dX6_tallyFor_14 rfl ?_
      refine J_icmp_lt (tgt := 24) dX6_tallyFor_15 (by decide) (fun c15 => ?_) (fun c15 => ?_)
      · exact False.elim (by first | exact hb1 c1 | exact hb2 c10 | exact hb3 c15 | exact c21 hb4)
      · refine J_iload_n dX6_tallyFor_18 rfl ?_
        refine J_bipush (v := 20) dX6_tallyFor_19 (by decide) ?_
        refine J_icmp_le (tgt := 26) dX6_tallyFor_21 (by decide) (fun c21 => ?_) (fun c21 => ?_)
        · refine J_aload_n dX6_tallyFor_26 rfl ?_
          refine J_get jf_X6_35 dX6_tallyFor_27 hx h5 ?_
          refine J_iload_n dX6_tallyFor_30 rfl ?_
          have hin : vp_in x1 4 := by exact vp_in_g (by assumption) (by assumption) (by assumption)
          have hcl : x1.toNatClampNeg = j := by rw [hg]; exact nI_clamp (by omega)
          refine J_aald dX6_tallyFor_31 (t := 5) rfl htl hin ?_
          rw [hcl, hf, show va_rf none = Value.null from rfl]
          · refine J_astoreN dX6_tallyFor_32 rfl (by decide) ?_
            refine J_aloadN dX6_tallyFor_34 rfl ?_
            refine J_ifnonnullN dX6_tallyFor_36 ?_
            refine Jc_new jn_X6_33 dX6_tallyFor_39 (by decide) (by decide) hW (fun q39 V39 hn39 hQ39 hk39 hW hx39 => ?_)
            have hz39 := he.1.none hn39
            have he := he.trans (hx39.sub (jsub_of rfl))
            have ha0 := ha0.mono hx39.1
            have htlk := htlk.mono hx39.1
            have hx := hk39 _ _ hx
            have hKx := hKx.mono hx39.1
            have htl := hk39 _ _ htl
            refine J_dup dX6_tallyFor_42 rfl ?_
            refine J_iload_n dX6_tallyFor_43 rfl ?_
            refine J_callI1 moX4_init rfl rfl jw_ml_X6_256 jw_im_X4_init dX6_tallyFor_44 (w_X4_init_z (d - 1) _ _ _ (by omega) hW hQ39  hg0 hg3) (by omega) (by decide) (by decide) (Nat.le_of_ble_eq_true rfl) (fun r44 V44 h44 => ?_)
            obtain ⟨rfl, hW, hx44, hj44, hxc44⟩ := h44
            have he := he.trans (hx44.sub (jsub_of rfl))
            have ha0 := ha0.mono hx44.1
            have htlk := htlk.mono hx44.1
            have hx := hx44.2 _ _ hx (jnot_of rfl)
            have hKx := hKx.mono hx44.1
            have htl := hx44.2 _ _ htl (jnot_of rfl)
            refine J_astore dX6_tallyFor_47 rfl (by decide) ?_
            refine J_aload_n dX6_tallyFor_49 rfl ?_
            refine J_get jf_X6_35 dX6_tallyFor_50 hx h5 ?_
            refine J_iload_n dX6_tallyFor_53 rfl ?_
            refine J_aload dX6_tallyFor_54 rfl ?_
            refine Jw_aast hW id dX6_tallyFor_56 rfl rfl htl rfl hj44 (by first | exact vp_in_g (by assumption) (by assumption) (by assumption) | exact vp_in_g1 (by assumption) (by assumption) (by assumption) | exact vp_in_g2 (by assumption) (by assumption) (by assumption) | exact vp_in_g3 (by assumption) (by assumption) (by assumption) | exact vp_in_n (by omega) (by omega)) (fun V56 hW hx56 hy56 hw56 => ?_)
            have he := he.trans (hx56.sub (jsub_of rfl))
            have ha0 := ha0.mono hx56.1
            have htlk := htlk.mono hx56.1
            have hj44 := hj44.mono hx56.1
            have hx := hx56.2 _ _ hx (jnot_of rfl)
            have hKx := hKx.mono hx56.1
            refine J_aload dX6_tallyFor_57 rfl ?_
            rw [hgj] at hxc44
            have hjm := jtyn.up hxc44 hk39 hn39 htl0 hy56
            exact J_ret (r := some (.ref _)) dX6_tallyFor_59 ⟨rfl, _, rfl, Or.inl ⟨_, rfl⟩⟩ (⟨_, rfl, hW, he, hj44, hcl ▸ hw56, hjm⟩)
        · exact False.elim (by first | exact hb1 c1 | exact hb2 c10 | exact hb3 c15 | exact c21 hb4)
