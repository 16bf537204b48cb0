set_option maxRecDepth 100000 in
set_option maxHeartbeats 4000000 in
theorem w_X6_tallyFor_old {tS : jTS} (d : Nat) (V0 : jH) (a0 : Nat) (x1 : Int32) (x2 : Int32) (x3 : Int32) (fs : List Value) (tl : Nat) (f : Nat → Option Nat) (hd : 2 ≤ d) (hW : WT V0) (ha0 : jis V0 (.inr 4) a0) (hx : V0 a0 = some (.inr (4, fs))) (h5 : fs[5]? = some (.ref tl)) (htl : V0 tl = some (.inl (5, 4, .inr (.inr (.inr (.inr f)))))) (ho : ∀ j, x1 = nI j → j < 4 → ∃ t, f j = some t) (hb1 : ¬ x1 < 0) (hb2 : ¬ Int32.ofNat 4 ≤ x1) (hb3 : ¬ x2 < x3) (hb4 : x2 ≤ 20) : jTot tS mX6_tallyFor d [.ref a0, .int x1, .int x2, .int x3] V0 0 0 (fun r V => (∃ j t : Nat, j < 4 ∧ x1 = nI j ∧ f j = some t ∧ r = some (.ref t)) ∧ V = V0) := by
  refine jTot.of_J [some (.ref a0), some (.int x1), some (.int x2), some (.int x3), none] moX6_tallyFor (Nat.le_of_ble_eq_true rfl) rfl ?_
  have he : jeff [] V0 V0 := jeff.refl _ _
  have hKx : jokO V0 (jFs 4) fs := hW _ _ id hx
  have htlk : jis V0 (.inl 5) tl := ⟨_, htl, rfl⟩
  have hN4 : (4 : Nat) < 2 ^ 31 := by decide
  have hvt : ∀ (j b : Nat), j < 4 → f j = some b → jis V0 (.inr 2) b := by
    obtain ⟨n9, f9, h91, h92, h93, h94⟩ := WT_arrR hW id rfl htlk
    cases htl.symm.trans h91
    exact h94
  refine J_iload_n dX6_tallyFor_0 rfl ?_
  refine J_if_lt (tgt := 24) dX6_tallyFor_1 (by decide) (fun c1 => ?_) (fun c1 => ?_)
  · exact False.elim (by first | exact hb1 c1 | exact hb2 c10 | exact hb3 c15 | exact c21 hb4)
  · refine J_iload_n dX6_tallyFor_4 rfl ?_
    refine J_aload_n dX6_tallyFor_5 rfl ?_
    refine J_get jf_X6_35 dX6_tallyFor_6 hx h5 ?_
    refine J_alen (v := Int32.ofNat 4) dX6_tallyFor_9 htl rfl rfl ?_
    refine J_icmp_ge (tgt := 24) dX6_tallyFor_10 (by decide) (fun c10 => ?_) (fun c10 => ?_)
    · exact False.elim (by first | exact hb1 c1 | exact hb2 c10 | exact hb3 c15 | exact c21 hb4)
    · refine J_iload_n dX6_tallyFor_13 rfl ?_
      refine J_iload_n dX6_tallyFor_14 rfl ?_
      refine J_icmp_lt (tgt := 24) dX6_tallyFor_15 (by decide) (fun c15 => ?_) (fun c15 => ?_)
      · exact False.elim (by first | exact hb1 c1 | exact hb2 c10 | exact hb3 c15 | exact c21 hb4)
      · refine J_iload_n dX6_tallyFor_18 rfl ?_
        refine J_bipush (v := 20) dX6_tallyFor_19 (by decide) ?_
        refine J_icmp_le (tgt := 26) dX6_tallyFor_21 (by decide) (fun c21 => ?_) (fun c21 => ?_)
        · refine J_aload_n dX6_tallyFor_26 rfl ?_
          refine J_get jf_X6_35 dX6_tallyFor_27 hx h5 ?_
          refine J_iload_n dX6_tallyFor_30 rfl ?_
          have hin : vp_in x1 4 := by exact vp_in_g (by assumption) (by assumption) (by assumption)
          obtain ⟨j, hj, hg⟩ := vp_in_of hin (by decide)
          obtain ⟨t, ht⟩ := ho j hg hj
          have hcl : x1.toNatClampNeg = j := by rw [hg]; exact nI_clamp (by omega)
          have hbt : jis V0 (.inr 2) t := hvt j t hj ht
          refine J_aald dX6_tallyFor_31 (t := 5) rfl htl hin ?_
          rw [hcl, ht, show va_rf (some t) = Value.ref t from rfl]
          · refine J_astore dX6_tallyFor_32 rfl (by decide) ?_
            refine J_aload dX6_tallyFor_34 rfl ?_
            refine J_ifnonnull (tgt := 57) dX6_tallyFor_36 (by decide) ?_
            refine J_aload dX6_tallyFor_57 rfl ?_
            exact J_ret (r := some (.ref _)) dX6_tallyFor_59 ⟨rfl, _, rfl, Or.inl ⟨_, rfl⟩⟩ (⟨⟨j, t, hj, hg, ht, rfl⟩, rfl⟩)
        · exact False.elim (by first | exact hb1 c1 | exact hb2 c10 | exact hb3 c15 | exact c21 hb4)
set_option maxRecDepth 100000 in
set_option maxHeartbeats 4000000 in
theorem w_X6_tallyFor_bad {tS : jTS} (d : Nat) (V0 : jH) (a0 : Nat) (x1 : Int32) (x2 : Int32) (x3 : Int32)  (hd : 2 ≤ d) (hW : WT V0) (ha0 : jis V0 (.inr 4) a0) (hbad : x1 < 0 ∨ Int32.ofNat 4 ≤ x1 ∨ x2 < x3 ∨ ¬ x2 ≤ 20) : jTot tS mX6_tallyFor d [.ref a0, .int x1, .int x2, .int x3] V0 0 0 (fun r V => r = some .null ∧ V = V0) := by
  refine jTot.of_J [some (.ref a0), some (.int x1), some (.int x2), some (.int x3), none] moX6_tallyFor (Nat.le_of_ble_eq_true rfl) rfl ?_
  have he : jeff [] V0 V0 := jeff.refl _ _
  refine J_iload_n dX6_tallyFor_0 rfl ?_
  refine J_if_lt (tgt := 24) dX6_tallyFor_1 (by decide) (fun c1 => ?_) (fun c1 => ?_)
  · refine J_null dX6_tallyFor_24 ?_
    exact J_ret (r := some .null) dX6_tallyFor_25 ⟨rfl, _, rfl, Or.inl ⟨_, rfl⟩⟩ (⟨rfl, rfl⟩)
  · refine J_iload_n dX6_tallyFor_4 rfl ?_
    refine J_aload_n dX6_tallyFor_5 rfl ?_
    obtain ⟨fs6, hO6, hK6⟩ := WT_obj hW id ha0
    obtain ⟨w6, hF6, b6, rfl, hb6⟩ := hK6.2 5 (.inr (some (.inl 5))) rfl
    refine J_get jf_X6_35 dX6_tallyFor_6 hO6 hF6 ?_
    obtain ⟨n9, f9, hA9, hN9, hM9, hv9⟩ := WT_arrR hW id rfl hb6
    obtain rfl := hM9 4 rfl
    refine J_alen (v := Int32.ofNat 4) dX6_tallyFor_9 hA9 rfl rfl ?_
    refine J_icmp_ge (tgt := 24) dX6_tallyFor_10 (by decide) (fun c10 => ?_) (fun c10 => ?_)
    · refine J_null dX6_tallyFor_24 ?_
      exact J_ret (r := some .null) dX6_tallyFor_25 ⟨rfl, _, rfl, Or.inl ⟨_, rfl⟩⟩ (⟨rfl, rfl⟩)
    · refine J_iload_n dX6_tallyFor_13 rfl ?_
      refine J_iload_n dX6_tallyFor_14 rfl ?_
      refine J_icmp_lt (tgt := 24) dX6_tallyFor_15 (by decide) (fun c15 => ?_) (fun c15 => ?_)
      · refine J_null dX6_tallyFor_24 ?_
        exact J_ret (r := some .null) dX6_tallyFor_25 ⟨rfl, _, rfl, Or.inl ⟨_, rfl⟩⟩ (⟨rfl, rfl⟩)
      · refine J_iload_n dX6_tallyFor_18 rfl ?_
        refine J_bipush (v := 20) dX6_tallyFor_19 (by decide) ?_
        refine J_icmp_le (tgt := 26) dX6_tallyFor_21 (by decide) (fun c21 => ?_) (fun c21 => ?_)
        · exact False.elim (hbad.elim c1 (fun h => h.elim c10 (fun h => h.elim c15 (fun h => h c21))))
        · refine J_null dX6_tallyFor_24 ?_
          exact J_ret (r := some .null) dX6_tallyFor_25 ⟨rfl, _, rfl, Or.inl ⟨_, rfl⟩⟩ (⟨rfl, rfl⟩)
