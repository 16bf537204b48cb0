set_option maxRecDepth 100000 in
set_option maxHeartbeats 4000000 in
theorem w_X7_axis_z {tS : jTS} (d : Nat) (V0 : jH) (x0 : Int32) (x1 : Int32)  (hd : 0 ≤ d)    (hp0 : 0 ≤ x0.toInt) (hp1 : x0.toInt < 6) (hp2 : 0 ≤ x1.toInt) (hp3 : x1.toInt < 3) : jTot tS mX7_axis d [.int x0, .int x1] V0 0 0 (fun r V => (fun r _ => ∃ y : Int32, r = some (.int y) ∧ ((-2147483648) ≤ y.toInt) ∧ (y.toInt ≤ 2147483647) ∧ (y = jaxI x0 x1)) r V ∧ V = V0) := by
  refine jTot.of_J [some (.int x0), some (.int x1), none, none, none] moX7_axis (Nat.le_of_ble_eq_true rfl) rfl ?_
  refine J_iload_n dX7_axis_0 rfl ?_
  refine J_iconst (v := 2) dX7_axis_1 (by decide) ?_
  refine J_idiv dX7_axis_2 (by decide) ?_
  refine J_istore_n dX7_axis_3 rfl (by decide) ?_
  refine J_iload_n dX7_axis_4 rfl ?_
  refine J_if_ne (tgt := 10) dX7_axis_5 (by decide) (fun c5 => ?_) (fun c5 => ?_)
  · refine J_iload_n dX7_axis_10 rfl ?_
    refine J_if_ne (tgt := 18) dX7_axis_11 (by decide) (fun c11 => ?_) (fun c11 => ?_)
    · refine J_iconst (v := 0) dX7_axis_18 (by decide) ?_
      refine J_istore_n dX7_axis_19 rfl (by decide) ?_
      refine J_iload_n dX7_axis_20 rfl ?_
      refine J_iconst (v := 2) dX7_axis_21 (by decide) ?_
      refine J_icmp_ne (tgt := 29) dX7_axis_22 (by decide) (fun c22 => ?_) (fun c22 => ?_)
      · refine J_iconst (v := 2) dX7_axis_29 (by decide) ?_
        refine J_istore dX7_axis_30 rfl (by decide) ?_
        refine J_iload_n dX7_axis_32 rfl ?_
        refine J_iconst (v := 1) dX7_axis_33 (by decide) ?_
        refine J_icmp_ne (tgt := 41) dX7_axis_34 (by decide) (fun c34 => ?_) (fun c34 => ?_)
        · refine J_iconst (v := 0) dX7_axis_41 (by decide) ?_
          refine J_iload_n dX7_axis_42 rfl ?_
          refine J_iconst (v := 2) dX7_axis_43 (by decide) ?_
          refine J_irem dX7_axis_44 (by decide) ?_
          refine J_if_ne (tgt := 52) dX7_axis_45 (by decide) (fun c45 => ?_) (fun c45 => ?_)
          · refine J_iconst (v := 0) dX7_axis_52 (by decide) ?_
            refine J_icmp_ne (tgt := 60) dX7_axis_53 (by decide) (fun c53 => ?_) (fun c53 => ?_)
            · refine J_iload dX7_axis_60 rfl ?_
              exact J_ret (r := some (.int _)) dX7_axis_62 ⟨rfl, _, rfl, rfl⟩ (⟨⟨_, rfl, (j_rng _).1, (j_rng _).2, (by have hbx0 : x0.toInt < 6 := hp1; have hbx1 : x1.toInt < 3 := hp3; obtain ⟨nx0, hnx0, rfl⟩ := jnat hp0 hbx0 (by decide); obtain ⟨nx1, hnx1, rfl⟩ := jnat hp2 hbx1 (by decide); clear hbx0 hbx1; clear hp0 hp1 hp2 hp3; have hcs := (jband (decide_eq_true c5) (jband (decide_eq_true c11) (jband (decide_eq_true c22) (jband (decide_eq_true c34) (jband (decide_eq_true c45) (decide_eq_true c53)))))); clear c5 c11 c22 c34 c45 c53; apply of_decide_eq_true; revert hcs; revert nx1; revert nx0; decide +kernel)⟩, rfl⟩)
            · refine J_iload_n dX7_axis_56 rfl ?_
              refine J_goto (tgt := 62) dX7_axis_57 (by decide) ?_
              exact J_ret (r := some (.int _)) dX7_axis_62 ⟨rfl, _, rfl, rfl⟩ (⟨⟨_, rfl, (j_rng _).1, (j_rng _).2, (by have hbx0 : x0.toInt < 6 := hp1; have hbx1 : x1.toInt < 3 := hp3; obtain ⟨nx0, hnx0, rfl⟩ := jnat hp0 hbx0 (by decide); obtain ⟨nx1, hnx1, rfl⟩ := jnat hp2 hbx1 (by decide); clear hbx0 hbx1; clear hp0 hp1 hp2 hp3; have hcs := (jband (decide_eq_true c5) (jband (decide_eq_true c11) (jband (decide_eq_true c22) (jband (decide_eq_true c34) (jband (decide_eq_true c45) (decide_eq_true c53)))))); clear c5 c11 c22 c34 c45 c53; apply of_decide_eq_true; revert hcs; revert nx1; revert nx0; decide +kernel)⟩, rfl⟩)
          · refine J_iconst (v := 1) dX7_axis_48 (by decide) ?_
            refine J_goto (tgt := 53) dX7_axis_49 (by decide) ?_
            refine J_icmp_ne (tgt := 60) dX7_axis_53 (by decide) (fun c53 => ?_) (fun c53 => ?_)
            · refine J_iload dX7_axis_60 rfl ?_
              exact J_ret (r := some (.int _)) dX7_axis_62 ⟨rfl, _, rfl, rfl⟩ (⟨⟨_, rfl, (j_rng _).1, (j_rng _).2, (by have hbx0 : x0.toInt < 6 := hp1; have hbx1 : x1.toInt < 3 := hp3; obtain ⟨nx0, hnx0, rfl⟩ := jnat hp0 hbx0 (by decide); obtain ⟨nx1, hnx1, rfl⟩ := jnat hp2 hbx1 (by decide); clear hbx0 hbx1; clear hp0 hp1 hp2 hp3; have hcs := (jband (decide_eq_true c5) (jband (decide_eq_true c11) (jband (decide_eq_true c22) (jband (decide_eq_true c34) (jband (decide_eq_true c45) (decide_eq_true c53)))))); clear c5 c11 c22 c34 c45 c53; apply of_decide_eq_true; revert hcs; revert nx1; revert nx0; decide +kernel)⟩, rfl⟩)
            · refine J_iload_n dX7_axis_56 rfl ?_
              refine J_goto (tgt := 62) dX7_axis_57 (by decide) ?_
              exact J_ret (r := some (.int _)) dX7_axis_62 ⟨rfl, _, rfl, rfl⟩ (⟨⟨_, rfl, (j_rng _).1, (j_rng _).2, (by have hbx0 : x0.toInt < 6 := hp1; have hbx1 : x1.toInt < 3 := hp3; obtain ⟨nx0, hnx0, rfl⟩ := jnat hp0 hbx0 (by decide); obtain ⟨nx1, hnx1, rfl⟩ := jnat hp2 hbx1 (by decide); clear hbx0 hbx1; clear hp0 hp1 hp2 hp3; have hcs := (jband (decide_eq_true c5) (jband (decide_eq_true c11) (jband (decide_eq_true c22) (jband (decide_eq_true c34) (jband (decide_eq_true c45) (decide_eq_true c53)))))); clear c5 c11 c22 c34 c45 c53; apply of_decide_eq_true; revert hcs; revert nx1; revert nx0; decide +kernel)⟩, rfl⟩)
        · refine J_iconst (v := 1) dX7_axis_37 (by decide) ?_
          refine J_goto (tgt := 42) dX7_axis_38 (by decide) ?_
          refine J_iload_n dX7_axis_42 rfl ?_
          refine J_iconst (v := 2) dX7_axis_43 (by decide) ?_
          refine J_irem dX7_axis_44 (by decide) ?_
          refine J_if_ne (tgt := 52) dX7_axis_45 (by decide) (fun c45 => ?_) (fun c45 => ?_)
          · refine J_iconst (v := 0) dX7_axis_52 (by decide) ?_
            refine J_icmp_ne (tgt := 60) dX7_axis_53 (by decide) (fun c53 => ?_) (fun c53 => ?_)
            · refine J_iload dX7_axis_60 rfl ?_
              exact J_ret (r := some (.int _)) dX7_axis_62 ⟨rfl, _, rfl, rfl⟩ (⟨⟨_, rfl, (j_rng _).1, (j_rng _).2, (by have hbx0 : x0.toInt < 6 := hp1; have hbx1 : x1.toInt < 3 := hp3; obtain ⟨nx0, hnx0, rfl⟩ := jnat hp0 hbx0 (by decide); obtain ⟨nx1, hnx1, rfl⟩ := jnat hp2 hbx1 (by decide); clear hbx0 hbx1; clear hp0 hp1 hp2 hp3; have hcs := (jband (decide_eq_true c5) (jband (decide_eq_true c11) (jband (decide_eq_true c22) (jband (decide_eq_true c34) (jband (decide_eq_true c45) (decide_eq_true c53)))))); clear c5 c11 c22 c34 c45 c53; apply of_decide_eq_true; revert hcs; revert nx1; revert nx0; decide +kernel)⟩, rfl⟩)
            · refine J_iload_n dX7_axis_56 rfl ?_
              refine J_goto (tgt := 62) dX7_axis_57 (by decide) ?_
              exact J_ret (r := some (.int _)) dX7_axis_62 ⟨rfl, _, rfl, rfl⟩ (⟨⟨_, rfl, (j_rng _).1, (j_rng _).2, (by have hbx0 : x0.toInt < 6 := hp1; have hbx1 : x1.toInt < 3 := hp3; obtain ⟨nx0, hnx0, rfl⟩ := jnat hp0 hbx0 (by decide); obtain ⟨nx1, hnx1, rfl⟩ := jnat hp2 hbx1 (by decide); clear hbx0 hbx1; clear hp0 hp1 hp2 hp3; have hcs := (jband (decide_eq_true c5) (jband (decide_eq_true c11) (jband (decide_eq_true c22) (jband (decide_eq_true c34) (jband (decide_eq_true c45) (decide_eq_true c53)))))); clear c5 c11 c22 c34 c45 c53; apply of_decide_eq_true; revert hcs; revert nx1; revert nx0; decide +kernel)⟩, rfl⟩)
          · refine J_iconst (v := 1) dX7_axis_48 (by decide) ?_
            refine J_goto (tgt := 53) dX7_axis_49 (by decide) ?_
            refine J_icmp_ne (tgt := 60) dX7_axis_53 (by decide) (fun c53 => ?_) (fun c53 => ?_)
            · refine J_iload dX7_axis_60 rfl ?_
              exact J_ret (r := some (.int _)) dX7_axis_62 ⟨rfl, _, rfl, rfl⟩ (⟨⟨_, rfl, (j_rng _).1, (j_rng _).2, (by have hbx0 : x0.toInt < 6 := hp1; have hbx1 : x1.toInt < 3 := hp3; obtain ⟨nx0, hnx0, rfl⟩ := jnat hp0 hbx0 (by decide); obtain ⟨nx1, hnx1, rfl⟩ := jnat hp2 hbx1 (by decide); clear hbx0 hbx1; clear hp0 hp1 hp2 hp3; have hcs := (jband (decide_eq_true c5) (jband (decide_eq_true c11) (jband (decide_eq_true c22) (jband (decide_eq_true c34) (jband (decide_eq_true c45) (decide_eq_true c53)))))); clear c5 c11 c22 c34 c45 c53; apply of_decide_eq_true; revert hcs; revert nx1; revert nx0; decide +kernel)⟩, rfl⟩)
            · refine J_iload_n dX7_axis_56 rfl ?_
              refine J_goto (tgt := 62) dX7_axis_57 (by decide) ?_
              exact J_ret (r := some (.int _)) dX7_axis_62 ⟨rfl, _, rfl, rfl⟩ (⟨⟨_, rfl, (j_rng _).1, (j_rng _).2, (by have hbx0 : x0.toInt < 6 := hp1; have hbx1 : x1.toInt < 3 := hp3; obtain ⟨nx0, hnx0, rfl⟩ := jnat hp0 hbx0 (by decide); obtain ⟨nx1, hnx1, rfl⟩ := jnat hp2 hbx1 (by decide); clear hbx0 hbx1; clear hp0 hp1 hp2 hp3; have hcs := (jband (decide_eq_true c5) (jband (decide_eq_true c11) (jband (decide_eq_true c22) (jband (decide_eq_true c34) (jband (decide_eq_true c45) (decide_eq_true c53)))))); clear c5 c11 c22 c34 c45 c53; apply of_decide_eq_true; revert hcs; revert nx1; revert nx0; decide +kernel)⟩, rfl⟩)
      · refine J_iconst (v := 1) dX7_axis_25 (by decide) ?_
        refine J_goto (tgt := 30) dX7_axis_26 (by decide) ?_
        refine J_istore dX7_axis_30 rfl (by decide) ?_
        refine J_iload_n dX7_axis_32 rfl ?_
        refine J_iconst (v := 1) dX7_axis_33 (by decide) ?_
        refine J_icmp_ne (tgt := 41) dX7_axis_34 (by decide) (fun c34 => ?_) (fun c34 => ?_)
        · refine J_iconst (v := 0) dX7_axis_41 (by decide) ?_
          refine J_iload_n dX7_axis_42 rfl ?_
          refine J_iconst (v := 2) dX7_axis_43 (by decide) ?_
          refine J_irem dX7_axis_44 (by decide) ?_
          refine J_if_ne (tgt := 52) dX7_axis_45 (by decide) (fun c45 => ?_) (fun c45 => ?_)
          · refine J_iconst (v := 0) dX7_axis_52 (by decide) ?_
            refine J_icmp_ne (tgt := 60) dX7_axis_53 (by decide) (fun c53 => ?_) (fun c53 => ?_)
            · refine J_iload dX7_axis_60 rfl ?_
              exact J_ret (r := some (.int _)) dX7_axis_62 ⟨rfl, _, rfl, rfl⟩ (⟨⟨_, rfl, (j_rng _).1, (j_rng _).2, (by have hbx0 : x0.toInt < 6 := hp1; have hbx1 : x1.toInt < 3 := hp3; obtain ⟨nx0, hnx0, rfl⟩ := jnat hp0 hbx0 (by decide); obtain ⟨nx1, hnx1, rfl⟩ := jnat hp2 hbx1 (by decide); clear hbx0 hbx1; clear hp0 hp1 hp2 hp3; have hcs := (jband (decide_eq_true c5) (jband (decide_eq_true c11) (jband (decide_eq_true c22) (jband (decide_eq_true c34) (jband (decide_eq_true c45) (decide_eq_true c53)))))); clear c5 c11 c22 c34 c45 c53; apply of_decide_eq_true; revert hcs; revert nx1; revert nx0; decide +kernel)⟩, rfl⟩)
            · refine J_iload_n dX7_axis_56 rfl ?_
              refine J_goto (tgt := 62) dX7_axis_57 (by decide) ?_
              exact J_ret (r := some (.int _)) dX7_axis_62 ⟨rfl, _, rfl, rfl⟩ (⟨⟨_, rfl, (j_rng _).1, (j_rng _).2, (by have hbx0 : x0.toInt < 6 := hp1; have hbx1 : x1.toInt < 3 := hp3; obtain ⟨nx0, hnx0, rfl⟩ := jnat hp0 hbx0 (by decide); obtain ⟨nx1, hnx1, rfl⟩ := jnat hp2 hbx1 (by decide); clear hbx0 hbx1; clear hp0 hp1 hp2 hp3; have hcs := (jband (decide_eq_true c5) (jband (decide_eq_true c11) (jband (decide_eq_true c22) (jband (decide_eq_true c34) (jband (decide_eq_true c45) (decide_eq_true c53)))))); clear c5 c11 c22 c34 c45 c53; apply of_decide_eq_true; revert hcs; revert nx1; revert nx0; decide +kernel)⟩, rfl⟩)
          · refine J_iconst (v := 1) dX7_axis_48 (by decide) ?_
            refine J_goto (tgt := 53) dX7_axis_49 (by decide) ?_
            refine J_icmp_ne (tgt := 60) dX7_axis_53 (by decide) (fun c53 => ?_) (fun c53 => ?_)
            · refine J_iload dX7_axis_60 rfl ?_
              exact J_ret (r := some (.int _)) dX7_axis_62 ⟨rfl, _, rfl, rfl⟩ (⟨⟨_, rfl, (j_rng _).1, (j_rng _).2, (by have hbx0 : x0.toInt < 6 := hp1; have hbx1 : x1.toInt < 3 := hp3; obtain ⟨nx0, hnx0, rfl⟩ := jnat hp0 hbx0 (by decide); obtain ⟨nx1, hnx1, rfl⟩ := jnat hp2 hbx1 (by decide); clear hbx0 hbx1; clear hp0 hp1 hp2 hp3; have hcs := (jband (decide_eq_true c5) (jband (decide_eq_true c11) (jband (decide_eq_true c22) (jband (decide_eq_true c34) (jband (decide_eq_true c45) (decide_eq_true c53)))))); clear c5 c11 c22 c34 c45 c53; apply of_decide_eq_true; revert hcs; revert nx1; revert nx0; decide +kernel)⟩, rfl⟩)
            · refine J_iload_n dX7_axis_56 rfl ?_
              refine J_goto (tgt := 62) dX7_axis_57 (by decide) ?_
              exact J_ret (r := some (.int _)) dX7_axis_62 ⟨rfl, _, rfl, rfl⟩ (⟨⟨_, rfl, (j_rng _).1, (j_rng _).2, (by have hbx0 : x0.toInt < 6 := hp1; have hbx1 : x1.toInt < 3 := hp3; obtain ⟨nx0, hnx0, rfl⟩ := jnat hp0 hbx0 (by decide); obtain ⟨nx1, hnx1, rfl⟩ := jnat hp2 hbx1 (by decide); clear hbx0 hbx1; clear hp0 hp1 hp2 hp3; have hcs := (jband (decide_eq_true c5) (jband (decide_eq_true c11) (jband (decide_eq_true c22) (jband (decide_eq_true c34) (jband (decide_eq_true c45) (decide_eq_true c53)))))); clear c5 c11 c22 c34 c45 c53; apply of_decide_eq_true; revert hcs; revert nx1; revert nx0; decide +kernel)⟩, rfl⟩)
        · refine J_iconst (v := 1) dX7_axis_37 (by decide) ?_
          refine J_goto (tgt := 42) dX7_axis_38 (by decide) ?_
          refine J_iload_n dX7_axis_42 rfl ?_
          refine J_iconst (v := 2) dX7_axis_43 (by decide) ?_
          refine J_irem dX7_axis_44 (by decide) ?_
          refine J_if_ne (tgt := 52) dX7_axis_45 (by decide) (fun c45 => ?_) (fun c45 => ?_)
          · refine J_iconst (v := 0) dX7_axis_52 (by decide) ?_
            refine J_icmp_ne (tgt := 60) dX7_axis_53 (by decide) (fun c53 => ?_) (fun c53 => ?_)
            · refine J_iload dX7_axis_60 rfl ?_
              exact J_ret (r := some (.int _)) dX7_axis_62 ⟨rfl, _, rfl, rfl⟩ (⟨⟨_, rfl, (j_rng _).1, (j_rng _).2, (by have hbx0 : x0.toInt < 6 := hp1; have hbx1 : x1.toInt < 3 := hp3; obtain ⟨nx0, hnx0, rfl⟩ := jnat hp0 hbx0 (by decide); obtain ⟨nx1, hnx1, rfl⟩ := jnat hp2 hbx1 (by decide); clear hbx0 hbx1; clear hp0 hp1 hp2 hp3; have hcs := (jband (decide_eq_true c5) (jband (decide_eq_true c11) (jband (decide_eq_true c22) (jband (decide_eq_true c34) (jband (decide_eq_true c45) (decide_eq_true c53)))))); clear c5 c11 c22 c34 c45 c53; apply of_decide_eq_true; revert hcs; revert nx1; revert nx0; decide +kernel)⟩, rfl⟩)
            · refine J_iload_n dX7_axis_56 rfl ?_
              refine J_goto (tgt := 62) dX7_axis_57 (by decide) ?_
              exact J_ret (r := some (.int _)) dX7_axis_62 ⟨rfl, _, rfl, rfl⟩ (⟨⟨_, rfl, (j_rng _).1, (j_rng _).2, (by have hbx0 : x0.toInt < 6 := hp1; have hbx1 : x1.toInt < 3 := hp3; obtain ⟨nx0, hnx0, rfl⟩ := jnat hp0 hbx0 (by decide); obtain ⟨nx1, hnx1, rfl⟩ := jnat hp2 hbx1 (by decide); clear hbx0 hbx1; clear hp0 hp1 hp2 hp3; have hcs := (jband (decide_eq_true c5) (jband (decide_eq_true c11) (jband (decide_eq_true c22) (jband (decide_eq_true c34) (jband (decide_eq_true c45) (decide_eq_true c53)))))); clear c5 c11 c22 c34 c45 c53; apply of_decide_eq_true; revert hcs; revert nx1; revert nx0; decide +kernel)⟩, rfl⟩)
          · refine J_iconst (v := 1) dX7_axis_48 (by decide) ?_
            refine J_goto (tgt := 53) dX7_axis_49 (by decide) ?_
            refine J_icmp_ne (tgt := 60) dX7_axis_53 (by decide) (fun c53 => ?_) (fun c53 => ?_)
            · refine J_iload dX7_axis_60 rfl ?_
              exact J_ret (r := some (.int _)) dX7_axis_62 ⟨rfl, _, rfl, rfl⟩ (⟨⟨_, rfl, (j_rng _).1, (j_rng _).2, (by have hbx0 : x0.toInt < 6 := hp1; have hbx1 : x1.toInt < 3 := hp3; obtain ⟨nx0, hnx0, rfl⟩ := jnat hp0 hbx0 (by decide); obtain ⟨nx1, hnx1, rfl⟩ := jnat hp2 hbx1 (by decide); clear hbx0 hbx1; clear hp0 hp1 hp2 hp3; have hcs := (jband (decide_eq_true c5) (jband (decide_eq_true c11) (jband (decide_eq_true c22) (jband (decide_eq_true c34) (jband (decide_eq_true c45) (decide_eq_true c53)))))); clear c5 c11 c22 c34 c45 c53; apply of_decide_eq_true; revert hcs; revert nx1; revert nx0; decide +kernel)⟩, rfl⟩)
            · refine J_iload_n dX7_axis_56 rfl ?_
              refine J_goto (tgt := 62) dX7_axis_57 (by decide) ?_
              exact J_ret (r := some (.int _)) dX7_axis_62 ⟨rfl, _, rfl, rfl⟩ (⟨⟨_, rfl, (j_rng _).1, (j_rng _).2, (by have hbx0 : x0.toInt < 6 := hp1; have hbx1 : x1.toInt < 3 := hp3; obtain ⟨nx0, hnx0, rfl⟩ := jnat hp0 hbx0 (by decide); obtain ⟨nx1, hnx1, rfl⟩ := jnat hp2 hbx1 (by decide); clear hbx0 hbx1; clear hp0 hp1 hp2 hp3; have hcs := (jband (decide_eq_true c5) (jband (decide_eq_true c11) (jband (decide_eq_true c22) (jband (decide_eq_true c34) (jband (decide_eq_true c45) (decide_eq_true c53)))))); clear c5 c11 c22 c34 c45 c53; apply of_decide_eq_true; revert hcs; revert nx1; revert nx0; decide +kernel)⟩, rfl⟩)
    · refine J_iconst (v := 1) dX7_axis_14 (by decide) ?_
      refine J_goto (tgt := 19) dX7_axis_15 (by decide) ?_
      refine J_istore_n dX7_axis_19 rfl (by decide) ?_
      refine J_iload_n dX7_axis_20 rfl ?_
      refine J_iconst (v := 2) dX7_axis_21 (by decide) ?_
      refine J_icmp_ne (tgt := 29) dX7_axis_22 (by decide) (fun c22 => ?_) (fun c22 => ?_)
      · refine J_iconst (v := 2) dX7_axis_29 (by decide) ?_
        refine J_istore dX7_axis_30 rfl (by decide) ?_
        refine J_iload_n dX7_axis_32 rfl ?_
        refine J_iconst (v := 1) dX7_axis_33 (by decide) ?_
        refine J_icmp_ne (tgt := 41) dX7_axis_34 (by decide) (fun c34 => ?_) (fun c34 => ?_)
        · refine J_iconst (v := 0) dX7_axis_41 (by decide) ?_
          refine J_iload_n dX7_axis_42 rfl ?_
          refine J_iconst (v := 2) dX7_axis_43 (by decide) ?_
          refine J_irem dX7_axis_44 (by decide) ?_
          refine J_if_ne (tgt := 52) dX7_axis_45 (by decide) (fun c45 => ?_) (fun c45 => ?_)
          · refine J_iconst (v := 0) dX7_axis_52 (by decide) ?_
            refine J_icmp_ne (tgt := 60) dX7_axis_53 (by decide) (fun c53 => ?_) (fun c53 => ?_)
            · refine J_iload dX7_axis_60 rfl ?_
              exact J_ret (r := some (.int _)) dX7_axis_62 ⟨rfl, _, rfl, rfl⟩ (⟨⟨_, rfl, (j_rng _).1, (j_rng _).2, (by have hbx0 : x0.toInt < 6 := hp1; have hbx1 : x1.toInt < 3 := hp3; obtain ⟨nx0, hnx0, rfl⟩ := jnat hp0 hbx0 (by decide); obtain ⟨nx1, hnx1, rfl⟩ := jnat hp2 hbx1 (by decide); clear hbx0 hbx1; clear hp0 hp1 hp2 hp3; have hcs := (jband (decide_eq_true c5) (jband (decide_eq_true c11) (jband (decide_eq_true c22) (jband (decide_eq_true c34) (jband (decide_eq_true c45) (decide_eq_true c53)))))); clear c5 c11 c22 c34 c45 c53; apply of_decide_eq_true; revert hcs; revert nx1; revert nx0; decide +kernel)⟩, rfl⟩)
            · refine J_iload_n dX7_axis_56 rfl ?_
              refine J_goto (tgt := 62) dX7_axis_57 (by decide) ?_
              exact J_ret (r := some (.int _)) dX7_axis_62 ⟨rfl, _, rfl, rfl⟩ (⟨⟨_, rfl, (j_rng _).1, (j_rng _).2, (by have hbx0 : x0.toInt < 6 := hp1; have hbx1 : x1.toInt < 3 := hp3; obtain ⟨nx0, hnx0, rfl⟩ := jnat hp0 hbx0 (by decide); obtain ⟨nx1, hnx1, rfl⟩ := jnat hp2 hbx1 (by decide); clear hbx0 hbx1; clear hp0 hp1 hp2 hp3; have hcs := (jband (decide_eq_true c5) (jband (decide_eq_true c11) (jband (decide_eq_true c22) (jband (decide_eq_true c34) (jband (decide_eq_true c45) (decide_eq_true c53)))))); clear c5 c11 c22 c34 c45 c53; apply of_decide_eq_true; revert hcs; revert nx1; revert nx0; decide +kernel)⟩, rfl⟩)
          · refine J_iconst (v := 1) dX7_axis_48 (by decide) ?_
            refine J_goto (tgt := 53) dX7_axis_49 (by decide) ?_
            refine J_icmp_ne (tgt := 60) dX7_axis_53 (by decide) (fun c53 => ?_) (fun c53 => ?_)
            · refine J_iload dX7_axis_60 rfl ?_
              exact J_ret (r := some (.int _)) dX7_axis_62 ⟨rfl, _, rfl, rfl⟩ (⟨⟨_, rfl, (j_rng _).1, (j_rng _).2, (by have hbx0 : x0.toInt < 6 := hp1; have hbx1 : x1.toInt < 3 := hp3; obtain ⟨nx0, hnx0, rfl⟩ := jnat hp0 hbx0 (by decide); obtain ⟨nx1, hnx1, rfl⟩ := jnat hp2 hbx1 (by decide); clear hbx0 hbx1; clear hp0 hp1 hp2 hp3; have hcs := (jband (decide_eq_true c5) (jband (decide_eq_true c11) (jband (decide_eq_true c22) (jband (decide_eq_true c34) (jband (decide_eq_true c45) (decide_eq_true c53)))))); clear c5 c11 c22 c34 c45 c53; apply of_decide_eq_true; revert hcs; revert nx1; revert nx0; decide +kernel)⟩, rfl⟩)
            · refine J_iload_n dX7_axis_56 rfl ?_
              refine J_goto (tgt := 62) dX7_axis_57 (by decide) ?_
              exact J_ret (r := some (.int _)) dX7_axis_62 ⟨rfl, _, rfl, rfl⟩ (⟨⟨_, rfl, (j_rng _).1, (j_rng _).2, (by have hbx0 : x0.toInt < 6 := hp1; have hbx1 : x1.toInt < 3 := hp3; obtain ⟨nx0, hnx0, rfl⟩ := jnat hp0 hbx0 (by decide); obtain ⟨nx1, hnx1, rfl⟩ := jnat hp2 hbx1 (by decide); clear hbx0 hbx1; clear hp0 hp1 hp2 hp3; have hcs := (jband (decide_eq_true c5) (jband (decide_eq_true c11) (jband (decide_eq_true c22) (jband (decide_eq_true c34) (jband (decide_eq_true c45) (decide_eq_true c53)))))); clear c5 c11 c22 c34 c45 c53; apply of_decide_eq_true; revert hcs; revert nx1; revert nx0; decide +kernel)⟩, rfl⟩)
        · refine J_iconst (v := 1) dX7_axis_37 (by decide) ?_
          refine J_goto (tgt := 42) dX7_axis_38 (by decide) ?_
          refine J_iload_n dX7_axis_42 rfl ?_
          refine J_iconst (v := 2) dX7_axis_43 (by decide) ?_
          refine J_irem dX7_axis_44 (by decide) ?_
          refine J_if_ne (tgt := 52) dX7_axis_45 (by decide) (fun c45 => ?_) (fun c45 => ?_)
          · refine J_iconst (v := 0) dX7_axis_52 (by decide) ?_
            refine J_icmp_ne (tgt := 60) dX7_axis_53 (by decide) (fun c53 => ?_) (fun c53 => ?_)
            · refine J_iload dX7_axis_60 rfl ?_
              exact J_ret (r := some (.int _)) dX7_axis_62 ⟨rfl, _, rfl, rfl⟩ (⟨⟨_, rfl, (j_rng _).1, (j_rng _).2, (by have hbx0 : x0.toInt < 6 := hp1; have hbx1 : x1.toInt < 3 := hp3; obtain ⟨nx0, hnx0, rfl⟩ := jnat hp0 hbx0 (by decide); obtain ⟨nx1, hnx1, rfl⟩ := jnat hp2 hbx1 (by decide); clear hbx0 hbx1; clear hp0 hp1 hp2 hp3; have hcs := (jband (decide_eq_true c5) (jband (decide_eq_true c11) (jband (decide_eq_true c22) (jband (decide_eq_true c34) (jband (decide_eq_true c45) (decide_eq_true c53)))))); clear c5 c11 c22 c34 c45 c53; apply of_decide_eq_true; revert hcs; revert nx1; revert nx0; decide +kernel)⟩, rfl⟩)
            · refine J_iload_n dX7_axis_56 rfl ?_
              refine J_goto (tgt := 62) dX7_axis_57 (by decide) ?_
              exact J_ret (r := some (.int _)) dX7_axis_62 ⟨rfl, _, rfl, rfl⟩ (⟨⟨_, rfl, (j_rng _).1, (j_rng _).2, (by have hbx0 : x0.toInt < 6 := hp1; have hbx1 : x1.toInt < 3 := hp3; obtain ⟨nx0, hnx0, rfl⟩ := jnat hp0 hbx0 (by decide); obtain ⟨nx1, hnx1, rfl⟩ := jnat hp2 hbx1 (by decide); clear hbx0 hbx1; clear hp0 hp1 hp2 hp3; have hcs := (jband (decide_eq_true c5) (jband (decide_eq_true c11) (jband (decide_eq_true c22) (jband (decide_eq_true c34) (jband (decide_eq_true c45) (decide_eq_true c53)))))); clear c5 c11 c22 c34 c45 c53; apply of_decide_eq_true; revert hcs; revert nx1; revert nx0; decide +kernel)⟩, rfl⟩)
          · refine J_iconst (v := 1) dX7_axis_48 (by decide) ?_
            refine J_goto (tgt := 53) dX7_axis_49 (by decide) ?_
            refine J_icmp_ne (tgt := 60) dX7_axis_53 (by decide) (fun c53 => ?_) (fun c53 => ?_)
            · refine J_iload dX7_axis_60 rfl ?_
              exact J_ret (r := some (.int _)) dX7_axis_62 ⟨rfl, _, rfl, rfl⟩ (⟨⟨_, rfl, (j_rng _).1, (j_rng _).2, (by have hbx0 : x0.toInt < 6 := hp1; have hbx1 : x1.toInt < 3 := hp3; obtain ⟨nx0, hnx0, rfl⟩ := jnat hp0 hbx0 (by decide); obtain ⟨nx1, hnx1, rfl⟩ := jnat hp2 hbx1 (by decide); clear hbx0 hbx1; clear hp0 hp1 hp2 hp3; have hcs := (jband (decide_eq_true c5) (jband (decide_eq_true c11) (jband (decide_eq_true c22) (jband (decide_eq_true c34) (jband (decide_eq_true c45) (decide_eq_true c53)))))); clear c5 c11 c22 c34 c45 c53; apply of_decide_eq_true; revert hcs; revert nx1; revert nx0; decide +kernel)⟩, rfl⟩)
            · refine J_iload_n dX7_axis_56 rfl ?_
              refine J_goto (tgt := 62) dX7_axis_57 (by decide) ?_
              exact J_ret (r := some (.int _)) dX7_axis_62 ⟨rfl, _, rfl, rfl⟩ (⟨⟨_, rfl, (j_rng _).1, (j_rng _).2, (by have hbx0 : x0.toInt < 6 := hp1; have hbx1 : x1.toInt < 3 := hp3; obtain ⟨nx0, hnx0, rfl⟩ := jnat hp0 hbx0 (by decide); obtain ⟨nx1, hnx1, rfl⟩ := jnat hp2 hbx1 (by decide); clear hbx0 hbx1; clear hp0 hp1 hp2 hp3; have hcs := (jband (decide_eq_true c5) (jband (decide_eq_true c11) (jband (decide_eq_true c22) (jband (decide_eq_true c34) (jband (decide_eq_true c45) (decide_eq_true c53)))))); clear c5 c11 c22 c34 c45 c53; apply of_decide_eq_true; revert hcs; revert nx1; revert nx0; decide +kernel)⟩, rfl⟩)
      · refine J_iconst (v := 1) dX7_axis_25 (by decide) ?_
        refine J_goto (tgt := 30) dX7_axis_26 (by decide) ?_
        refine J_istore dX7_axis_30 rfl (by decide) ?_
        refine J_iload_n dX7_axis_32 rfl ?_
        refine J_iconst (v := 1) dX7_axis_33 (by decide) ?_
        refine J_icmp_ne (tgt := 41) dX7_axis_34 (by decide) (fun c34 => ?_) (fun c34 => ?_)
        · refine J_iconst (v := 0) dX7_axis_41 (by decide) ?_
          refine J_iload_n dX7_axis_42 rfl ?_
          refine J_iconst (v := 2) dX7_axis_43 (by decide) ?_
          refine J_irem dX7_axis_44 (by decide) ?_
          refine J_if_ne (tgt := 52) dX7_axis_45 (by decide) (fun c45 => ?_) (fun c45 => ?_)
          · refine J_iconst (v := 0) dX7_axis_52 (by decide) ?_
            refine J_icmp_ne (tgt := 60) dX7_axis_53 (by decide) (fun c53 => ?_) (fun c53 => ?_)
            · refine J_iload dX7_axis_60 rfl ?_
              exact J_ret (r := some (.int _)) dX7_axis_62 ⟨rfl, _, rfl, rfl⟩ (⟨⟨_, rfl, (j_rng _).1, (j_rng _).2, (by have hbx0 : x0.toInt < 6 := hp1; have hbx1 : x1.toInt < 3 := hp3; obtain ⟨nx0, hnx0, rfl⟩ := jnat hp0 hbx0 (by decide); obtain ⟨nx1, hnx1, rfl⟩ := jnat hp2 hbx1 (by decide); clear hbx0 hbx1; clear hp0 hp1 hp2 hp3; have hcs := (jband (decide_eq_true c5) (jband (decide_eq_true c11) (jband (decide_eq_true c22) (jband (decide_eq_true c34) (jband (decide_eq_true c45) (decide_eq_true c53)))))); clear c5 c11 c22 c34 c45 c53; apply of_decide_eq_true; revert hcs; revert nx1; revert nx0; decide +kernel)⟩, rfl⟩)
            · refine J_iload_n dX7_axis_56 rfl ?_
              refine J_goto (tgt := 62) dX7_axis_57 (by decide) ?_
              exact J_ret (r := some (.int _)) dX7_axis_62 ⟨rfl, _, rfl, rfl⟩ (⟨⟨_, rfl, (j_rng _).1, (j_rng _).2, (by have hbx0 : x0.toInt < 6 := hp1; have hbx1 : x1.toInt < 3 := hp3; obtain ⟨nx0, hnx0, rfl⟩ := jnat hp0 hbx0 (by decide); obtain ⟨nx1, hnx1, rfl⟩ := jnat hp2 hbx1 (by decide); clear hbx0 hbx1; clear hp0 hp1 hp2 hp3; have hcs := (jband (decide_eq_true c5) (jband (decide_eq_true c11) (jband (decide_eq_true c22) (jband (decide_eq_true c34) (jband (decide_eq_true c45) (decide_eq_true c53)))))); clear c5 c11 c22 c34 c45 c53; apply of_decide_eq_true; revert hcs; revert nx1; revert nx0; decide +kernel)⟩, rfl⟩)
          · refine J_iconst (v := 1) dX7_axis_48 (by decide) ?_
            refine J_goto (tgt := 53) dX7_axis_49 (by decide) ?_
            refine J_icmp_ne (tgt := 60) dX7_axis_53 (by decide) (fun c53 => ?_) (fun c53 => ?_)
            · refine J_iload dX7_axis_60 rfl ?_
              exact J_ret (r := some (.int _)) dX7_axis_62 ⟨rfl, _, rfl, rfl⟩ (⟨⟨_, rfl, (j_rng _).1, (j_rng _).2, (by have hbx0 : x0.toInt < 6 := hp1; have hbx1 : x1.toInt < 3 := hp3; obtain ⟨nx0, hnx0, rfl⟩ := jnat hp0 hbx0 (by decide); obtain ⟨nx1, hnx1, rfl⟩ := jnat hp2 hbx1 (by decide); clear hbx0 hbx1; clear hp0 hp1 hp2 hp3; have hcs := (jband (decide_eq_true c5) (jband (decide_eq_true c11) (jband (decide_eq_true c22) (jband (decide_eq_true c34) (jband (decide_eq_true c45) (decide_eq_true c53)))))); clear c5 c11 c22 c34 c45 c53; apply of_decide_eq_true; revert hcs; revert nx1; revert nx0; decide +kernel)⟩, rfl⟩)
            · refine J_iload_n dX7_axis_56 rfl ?_
              refine J_goto (tgt := 62) dX7_axis_57 (by decide) ?_
              exact J_ret (r := some (.int _)) dX7_axis_62 ⟨rfl, _, rfl, rfl⟩ (⟨⟨_, rfl, (j_rng _).1, (j_rng _).2, (by have hbx0 : x0.toInt < 6 := hp1; have hbx1 : x1.toInt < 3 := hp3; obtain ⟨nx0, hnx0, rfl⟩ := jnat hp0 hbx0 (by decide); obtain ⟨nx1, hnx1, rfl⟩ := jnat hp2 hbx1 (by decide); clear hbx0 hbx1; clear hp0 hp1 hp2 hp3; have hcs := (jband (decide_eq_true c5) (jband (decide_eq_true c11) (jband (decide_eq_true c22) (jband (decide_eq_true c34) (jband (decide_eq_true c45) (decide_eq_true c53)))))); clear c5 c11 c22 c34 c45 c53; apply of_decide_eq_true; revert hcs; revert nx1; revert nx0; decide +kernel)⟩, rfl⟩)
        · refine J_iconst (v := 1) dX7_axis_37 (by decide) ?_
          refine J_goto (tgt := 42) dX7_axis_38 (by decide) ?_
          refine J_iload_n dX7_axis_42 rfl ?_
          refine J_iconst (v := 2) dX7_axis_43 (by decide) ?_
          refine J_irem dX7_axis_44 (by decide) ?_
          refine J_if_ne (tgt := 52) dX7_axis_45 (by decide) (fun c45 => ?_) (fun c45 => ?_)
          · refine J_iconst (v := 0) dX7_axis_52 (by decide) ?_
            refine J_icmp_ne (tgt := 60) dX7_axis_53 (by decide) (fun c53 => ?_) (fun c53 => ?_)
            · refine J_iload dX7_axis_60 rfl ?_
              exact J_ret (r := some (.int _)) dX7_axis_62 ⟨rfl, _, rfl, rfl⟩ (⟨⟨_, rfl, (j_rng _).1, (j_rng _).2, (by have hbx0 : x0.toInt < 6 := hp1; have hbx1 : x1.toInt < 3 := hp3; obtain ⟨nx0, hnx0, rfl⟩ := jnat hp0 hbx0 (by decide); obtain ⟨nx1, hnx1, rfl⟩ := jnat hp2 hbx1 (by decide); clear hbx0 hbx1; clear hp0 hp1 hp2 hp3; have hcs := (jband (decide_eq_true c5) (jband (decide_eq_true c11) (jband (decide_eq_true c22) (jband (decide_eq_true c34) (jband (decide_eq_true c45) (decide_eq_true c53)))))); clear c5 c11 c22 c34 c45 c53; apply of_decide_eq_true; revert hcs; revert nx1; revert nx0; decide +kernel)⟩, rfl⟩)
            · refine J_iload_n dX7_axis_56 rfl ?_
              refine J_goto (tgt := 62) dX7_axis_57 (by decide) ?_
              exact J_ret (r := some (.int _)) dX7_axis_62 ⟨rfl, _, rfl, rfl⟩ (⟨⟨_, rfl, (j_rng _).1, (j_rng _).2, (by have hbx0 : x0.toInt < 6 := hp1; have hbx1 : x1.toInt < 3 := hp3; obtain ⟨nx0, hnx0, rfl⟩ := jnat hp0 hbx0 (by decide); obtain ⟨nx1, hnx1, rfl⟩ := jnat hp2 hbx1 (by decide); clear hbx0 hbx1; clear hp0 hp1 hp2 hp3; have hcs := (jband (decide_eq_true c5) (jband (decide_eq_true c11) (jband (decide_eq_true c22) (jband (decide_eq_true c34) (jband (decide_eq_true c45) (decide_eq_true c53)))))); clear c5 c11 c22 c34 c45 c53; apply of_decide_eq_true; revert hcs; revert nx1; revert nx0; decide +kernel)⟩, rfl⟩)
          · refine J_iconst (v := 1) dX7_axis_48 (by decide) ?_
            refine J_goto (tgt := 53) dX7_axis_49 (by decide) ?_
            refine J_icmp_ne (tgt := 60) dX7_axis_53 (by decide) (fun c53 => ?_) (fun c53 => ?_)
            · refine J_iload dX7_axis_60 rfl ?_
              exact J_ret (r := some (.int _)) dX7_axis_62 ⟨rfl, _, rfl, rfl⟩ (⟨⟨_, rfl, (j_rng _).1, (j_rng _).2, (by have hbx0 : x0.toInt < 6 := hp1; have hbx1 : x1.toInt < 3 := hp3; obtain ⟨nx0, hnx0, rfl⟩ := jnat hp0 hbx0 (by decide); obtain ⟨nx1, hnx1, rfl⟩ := jnat hp2 hbx1 (by decide); clear hbx0 hbx1; clear hp0 hp1 hp2 hp3; have hcs := (jband (decide_eq_true c5) (jband (decide_eq_true c11) (jband (decide_eq_true c22) (jband (decide_eq_true c34) (jband (decide_eq_true c45) (decide_eq_true c53)))))); clear c5 c11 c22 c34 c45 c53; apply of_decide_eq_true; revert hcs; revert nx1; revert nx0; decide +kernel)⟩, rfl⟩)
            · refine J_iload_n dX7_axis_56 rfl ?_
              refine J_goto (tgt := 62) dX7_axis_57 (by decide) ?_
              exact J_ret (r := some (.int _)) dX7_axis_62 ⟨rfl, _, rfl, rfl⟩ (⟨⟨_, rfl, (j_rng _).1, (j_rng _).2, (by have hbx0 : x0.toInt < 6 := hp1; have hbx1 : x1.toInt < 3 := hp3; obtain ⟨nx0, hnx0, rfl⟩ := jnat hp0 hbx0 (by decide); obtain ⟨nx1, hnx1, rfl⟩ := jnat hp2 hbx1 (by decide); clear hbx0 hbx1; clear hp0 hp1 hp2 hp3; have hcs := (jband (decide_eq_true c5) (jband (decide_eq_true c11) (jband (decide_eq_true c22) (jband (decide_eq_true c34) (jband (decide_eq_true c45) (decide_eq_true c53)))))); clear c5 c11 c22 c34 c45 c53; apply of_decide_eq_true; revert hcs; revert nx1; revert nx0; decide +kernel)⟩, rfl⟩)
  · refine J_iload_n dX7_axis_8 rfl ?_
    exact J_ret (r := some (.int _)) dX7_axis_9 ⟨rfl, _, rfl, rfl⟩ (⟨⟨_, rfl, (j_rng _).1, (j_rng _).2, (by have hbx0 : x0.toInt < 6 := hp1; have hbx1 : x1.toInt < 3 := hp3; obtain ⟨nx0, hnx0, rfl⟩ := jnat hp0 hbx0 (by decide); obtain ⟨nx1, hnx1, rfl⟩ := jnat hp2 hbx1 (by decide); clear hbx0 hbx1; clear hp0 hp1 hp2 hp3; have hcs := (decide_eq_true c5); clear c5; apply of_decide_eq_true; revert hcs; revert nx1; revert nx0; decide +kernel)⟩, rfl⟩)
set_option maxRecDepth 100000 in
set_option maxHeartbeats 4000000 in
theorem w_X7_turned_z {tS : jTS} (d : Nat) (V0 : jH) (x0 : Int32) (x1 : Int32) (x2 : Int32)  (hd : 1 ≤ d)    (hp0 : 0 ≤ x0.toInt) (hp1 : x0.toInt ≤ 3) (hp2 : 0 ≤ x1.toInt) (hp3 : x1.toInt < jtur x0.toInt) (hp4 : 0 ≤ x2.toInt) (hp5 : x2.toInt < jdir x0.toInt) : jTot tS mX7_turned d [.int x0, .int x1, .int x2] V0 0 0 (fun r V => (fun r _ => ∃ y : Int32, r = some (.int y) ∧ ((-2147483648) ≤ y.toInt) ∧ (y.toInt ≤ 2147483647) ∧ (y.toInt = jtn x0.toInt x1.toInt x2.toInt)) r V ∧ V = V0) := by
  refine jTot.of_J [some (.int x0), some (.int x1), some (.int x2), none, none] moX7_turned (Nat.le_of_ble_eq_true rfl) rfl ?_
  refine J_iload_n dX7_turned_0 rfl ?_
  refine J_if_ne (tgt := 23) dX7_turned_1 (by decide) (fun c1 => ?_) (fun c1 => ?_)
  · refine J_iload_n dX7_turned_23 rfl ?_
    refine J_iconst (v := 1) dX7_turned_24 (by decide) ?_
    refine J_icmp_ne (tgt := 50) dX7_turned_25 (by decide) (fun c25 => ?_) (fun c25 => ?_)
    · refine J_iload_n dX7_turned_50 rfl ?_
      refine J_iconst (v := 3) dX7_turned_51 (by decide) ?_
      refine J_irem dX7_turned_52 (by decide) ?_
      refine J_istore_n dX7_turned_53 rfl (by decide) ?_
      refine J_iload_n dX7_turned_54 rfl ?_
      refine J_iconst (v := 2) dX7_turned_55 (by decide) ?_
      refine J_icmp_le (tgt := 63) dX7_turned_56 (by decide) (fun c56 => ?_) (fun c56 => ?_)
      · refine J_iconst (v := 0) dX7_turned_63 (by decide) ?_
        refine J_iload_n dX7_turned_64 rfl ?_
        refine J_bipush (v := 8) dX7_turned_65 (by decide) ?_
        refine J_irem dX7_turned_67 (by decide) ?_
        refine J_iload_n dX7_turned_68 rfl ?_
        refine J_ishr dX7_turned_69 ?_
        refine J_iconst (v := 1) dX7_turned_70 (by decide) ?_
        refine J_iand dX7_turned_71 ?_
        refine J_iconst (v := 1) dX7_turned_72 (by decide) ?_
        refine J_icmp_ne (tgt := 80) dX7_turned_73 (by decide) (fun c73 => ?_) (fun c73 => ?_)
        · refine J_iconst (v := 0) dX7_turned_80 (by decide) ?_
          refine J_icmp_eq (tgt := 88) dX7_turned_81 (by decide) (fun c81 => ?_) (fun c81 => ?_)
          · refine J_iconst (v := 0) dX7_turned_88 (by decide) ?_
            refine J_istore dX7_turned_89 rfl (by decide) ?_
            refine J_iload_n dX7_turned_91 rfl ?_
            refine J_bipush (v := 8) dX7_turned_92 (by decide) ?_
            refine J_idiv dX7_turned_94 (by decide) ?_
            refine J_iload_n dX7_turned_95 rfl ?_
            refine J_callS2 moX7_axis jw_ml_X7_98 jw_st_X7_axis dX7_turned_96 (w_X7_axis_z (d - 1) _ _ _ (by omega) (jdiv8 hp2 (by have q := jtur_cases x0.toInt; omega)).1 (jdiv8 hp2 (by have q := jtur_cases x0.toInt; omega)).2 (jmod3 hp4 (by have q := jdir_cases x0.toInt; omega)).1 (jmod3 hp4 (by have q := jdir_cases x0.toInt; omega)).2) (by omega) (Nat.zero_le _) (Nat.zero_le _) (Nat.le_of_ble_eq_true rfl) (fun r96 V96 h96 => ?_)
            obtain ⟨⟨_, rfl, -, -, rfl⟩, hE96⟩ := h96
            have hE96 := hE96.symm
            subst hE96
            refine J_iload dX7_turned_99 rfl ?_
            refine J_if_eq (tgt := 108) dX7_turned_101 (by decide) (fun c101 => ?_) (fun c101 => ?_)
            · refine J_iconst (v := 0) dX7_turned_108 (by decide) ?_
              refine J_iadd dX7_turned_109 ?_
              exact J_ret (r := some (.int _)) dX7_turned_110 ⟨rfl, _, rfl, rfl⟩ (⟨⟨_, rfl, (j_rng _).1, (j_rng _).2, (by have hbx0 : x0.toInt < 4 := (show x0.toInt < 4 by omega); have hbx1 : x1.toInt < 48 := (by have q := jtur_cases x0.toInt; omega); have hbx2 : x2.toInt < 6 := (by have q := jdir_cases x0.toInt; omega); obtain ⟨nx0, hnx0, rfl⟩ := jnat hp0 hbx0 (by decide); obtain ⟨nx1, hnx1, rfl⟩ := jnat hp2 hbx1 (by decide); obtain ⟨nx2, hnx2, rfl⟩ := jnat hp4 hbx2 (by decide); clear hbx0 hbx1 hbx2; clear hp0 hp1 hp2 hp4; have hcs := (jband (decide_eq_true hp3) (jband (decide_eq_true hp5) (jband (decide_eq_true c1) (jband (decide_eq_true c25) (jband (decide_eq_true c56) (jband (decide_eq_true c73) (jband (decide_eq_true c81) (decide_eq_true c101)))))))); clear hp3 hp5 c1 c25 c56 c73 c81 c101; apply of_decide_eq_true; revert hcs; revert nx2; revert nx1; revert nx0; decide +kernel)⟩, rfl⟩)
            · refine J_iconst (v := 3) dX7_turned_104 (by decide) ?_
              refine J_goto (tgt := 109) dX7_turned_105 (by decide) ?_
              refine J_iadd dX7_turned_109 ?_
              exact J_ret (r := some (.int _)) dX7_turned_110 ⟨rfl, _, rfl, rfl⟩ (⟨⟨_, rfl, (j_rng _).1, (j_rng _).2, (by have hbx0 : x0.toInt < 4 := (show x0.toInt < 4 by omega); have hbx1 : x1.toInt < 48 := (by have q := jtur_cases x0.toInt; omega); have hbx2 : x2.toInt < 6 := (by have q := jdir_cases x0.toInt; omega); obtain ⟨nx0, hnx0, rfl⟩ := jnat hp0 hbx0 (by decide); obtain ⟨nx1, hnx1, rfl⟩ := jnat hp2 hbx1 (by decide); obtain ⟨nx2, hnx2, rfl⟩ := jnat hp4 hbx2 (by decide); clear hbx0 hbx1 hbx2; clear hp0 hp1 hp2 hp4; have hcs := (jband (decide_eq_true hp3) (jband (decide_eq_true hp5) (jband (decide_eq_true c1) (jband (decide_eq_true c25) (jband (decide_eq_true c56) (jband (decide_eq_true c73) (jband (decide_eq_true c81) (decide_eq_true c101)))))))); clear hp3 hp5 c1 c25 c56 c73 c81 c101; apply of_decide_eq_true; revert hcs; revert nx2; revert nx1; revert nx0; decide +kernel)⟩, rfl⟩)
          · refine J_iconst (v := 1) dX7_turned_84 (by decide) ?_
            refine J_goto (tgt := 89) dX7_turned_85 (by decide) ?_
            refine J_istore dX7_turned_89 rfl (by decide) ?_
            refine J_iload_n dX7_turned_91 rfl ?_
            refine J_bipush (v := 8) dX7_turned_92 (by decide) ?_
            refine J_idiv dX7_turned_94 (by decide) ?_
            refine J_iload_n dX7_turned_95 rfl ?_
            refine J_callS2 moX7_axis jw_ml_X7_98 jw_st_X7_axis dX7_turned_96 (w_X7_axis_z (d - 1) _ _ _ (by omega) (jdiv8 hp2 (by have q := jtur_cases x0.toInt; omega)).1 (jdiv8 hp2 (by have q := jtur_cases x0.toInt; omega)).2 (jmod3 hp4 (by have q := jdir_cases x0.toInt; omega)).1 (jmod3 hp4 (by have q := jdir_cases x0.toInt; omega)).2) (by omega) (Nat.zero_le _) (Nat.zero_le _) (Nat.le_of_ble_eq_true rfl) (fun r96 V96 h96 => ?_)
            obtain ⟨⟨_, rfl, -, -, rfl⟩, hE96⟩ := h96
            have hE96 := hE96.symm
            subst hE96
            refine J_iload dX7_turned_99 rfl ?_
            refine J_if_eq (tgt := 108) dX7_turned_101 (by decide) (fun c101 => ?_) (fun c101 => ?_)
            · refine J_iconst (v := 0) dX7_turned_108 (by decide) ?_
              refine J_iadd dX7_turned_109 ?_
              exact J_ret (r := some (.int _)) dX7_turned_110 ⟨rfl, _, rfl, rfl⟩ (⟨⟨_, rfl, (j_rng _).1, (j_rng _).2, (by have hbx0 : x0.toInt < 4 := (show x0.toInt < 4 by omega); have hbx1 : x1.toInt < 48 := (by have q := jtur_cases x0.toInt; omega); have hbx2 : x2.toInt < 6 := (by have q := jdir_cases x0.toInt; omega); obtain ⟨nx0, hnx0, rfl⟩ := jnat hp0 hbx0 (by decide); obtain ⟨nx1, hnx1, rfl⟩ := jnat hp2 hbx1 (by decide); obtain ⟨nx2, hnx2, rfl⟩ := jnat hp4 hbx2 (by decide); clear hbx0 hbx1 hbx2; clear hp0 hp1 hp2 hp4; have hcs := (jband (decide_eq_true hp3) (jband (decide_eq_true hp5) (jband (decide_eq_true c1) (jband (decide_eq_true c25) (jband (decide_eq_true c56) (jband (decide_eq_true c73) (jband (decide_eq_true c81) (decide_eq_true c101)))))))); clear hp3 hp5 c1 c25 c56 c73 c81 c101; apply of_decide_eq_true; revert hcs; revert nx2; revert nx1; revert nx0; decide +kernel)⟩, rfl⟩)
            · refine J_iconst (v := 3) dX7_turned_104 (by decide) ?_
              refine J_goto (tgt := 109) dX7_turned_105 (by decide) ?_
              refine J_iadd dX7_turned_109 ?_
              exact J_ret (r := some (.int _)) dX7_turned_110 ⟨rfl, _, rfl, rfl⟩ (⟨⟨_, rfl, (j_rng _).1, (j_rng _).2, (by have hbx0 : x0.toInt < 4 := (show x0.toInt < 4 by omega); have hbx1 : x1.toInt < 48 := (by have q := jtur_cases x0.toInt; omega); have hbx2 : x2.toInt < 6 := (by have q := jdir_cases x0.toInt; omega); obtain ⟨nx0, hnx0, rfl⟩ := jnat hp0 hbx0 (by decide); obtain ⟨nx1, hnx1, rfl⟩ := jnat hp2 hbx1 (by decide); obtain ⟨nx2, hnx2, rfl⟩ := jnat hp4 hbx2 (by decide); clear hbx0 hbx1 hbx2; clear hp0 hp1 hp2 hp4; have hcs := (jband (decide_eq_true hp3) (jband (decide_eq_true hp5) (jband (decide_eq_true c1) (jband (decide_eq_true c25) (jband (decide_eq_true c56) (jband (decide_eq_true c73) (jband (decide_eq_true c81) (decide_eq_true c101)))))))); clear hp3 hp5 c1 c25 c56 c73 c81 c101; apply of_decide_eq_true; revert hcs; revert nx2; revert nx1; revert nx0; decide +kernel)⟩, rfl⟩)
        · refine J_iconst (v := 1) dX7_turned_76 (by decide) ?_
          refine J_goto (tgt := 81) dX7_turned_77 (by decide) ?_
          refine J_icmp_eq (tgt := 88) dX7_turned_81 (by decide) (fun c81 => ?_) (fun c81 => ?_)
          · refine J_iconst (v := 0) dX7_turned_88 (by decide) ?_
            refine J_istore dX7_turned_89 rfl (by decide) ?_
            refine J_iload_n dX7_turned_91 rfl ?_
            refine J_bipush (v := 8) dX7_turned_92 (by decide) ?_
            refine J_idiv dX7_turned_94 (by decide) ?_
            refine J_iload_n dX7_turned_95 rfl ?_
            refine J_callS2 moX7_axis jw_ml_X7_98 jw_st_X7_axis dX7_turned_96 (w_X7_axis_z (d - 1) _ _ _ (by omega) (jdiv8 hp2 (by have q := jtur_cases x0.toInt; omega)).1 (jdiv8 hp2 (by have q := jtur_cases x0.toInt; omega)).2 (jmod3 hp4 (by have q := jdir_cases x0.toInt; omega)).1 (jmod3 hp4 (by have q := jdir_cases x0.toInt; omega)).2) (by omega) (Nat.zero_le _) (Nat.zero_le _) (Nat.le_of_ble_eq_true rfl) (fun r96 V96 h96 => ?_)
            obtain ⟨⟨_, rfl, -, -, rfl⟩, hE96⟩ := h96
            have hE96 := hE96.symm
            subst hE96
            refine J_iload dX7_turned_99 rfl ?_
            refine J_if_eq (tgt := 108) dX7_turned_101 (by decide) (fun c101 => ?_) (fun c101 => ?_)
            · refine J_iconst (v := 0) dX7_turned_108 (by decide) ?_
              refine J_iadd dX7_turned_109 ?_
              exact J_ret (r := some (.int _)) dX7_turned_110 ⟨rfl, _, rfl, rfl⟩ (⟨⟨_, rfl, (j_rng _).1, (j_rng _).2, (by have hbx0 : x0.toInt < 4 := (show x0.toInt < 4 by omega); have hbx1 : x1.toInt < 48 := (by have q := jtur_cases x0.toInt; omega); have hbx2 : x2.toInt < 6 := (by have q := jdir_cases x0.toInt; omega); obtain ⟨nx0, hnx0, rfl⟩ := jnat hp0 hbx0 (by decide); obtain ⟨nx1, hnx1, rfl⟩ := jnat hp2 hbx1 (by decide); obtain ⟨nx2, hnx2, rfl⟩ := jnat hp4 hbx2 (by decide); clear hbx0 hbx1 hbx2; clear hp0 hp1 hp2 hp4; have hcs := (jband (decide_eq_true hp3) (jband (decide_eq_true hp5) (jband (decide_eq_true c1) (jband (decide_eq_true c25) (jband (decide_eq_true c56) (jband (decide_eq_true c73) (jband (decide_eq_true c81) (decide_eq_true c101)))))))); clear hp3 hp5 c1 c25 c56 c73 c81 c101; apply of_decide_eq_true; revert hcs; revert nx2; revert nx1; revert nx0; decide +kernel)⟩, rfl⟩)
            · refine J_iconst (v := 3) dX7_turned_104 (by decide) ?_
              refine J_goto (tgt := 109) dX7_turned_105 (by decide) ?_
              refine J_iadd dX7_turned_109 ?_
              exact J_ret (r := some (.int _)) dX7_turned_110 ⟨rfl, _, rfl, rfl⟩ (⟨⟨_, rfl, (j_rng _).1, (j_rng _).2, (by have hbx0 : x0.toInt < 4 := (show x0.toInt < 4 by omega); have hbx1 : x1.toInt < 48 := (by have q := jtur_cases x0.toInt; omega); have hbx2 : x2.toInt < 6 := (by have q := jdir_cases x0.toInt; omega); obtain ⟨nx0, hnx0, rfl⟩ := jnat hp0 hbx0 (by decide); obtain ⟨nx1, hnx1, rfl⟩ := jnat hp2 hbx1 (by decide); obtain ⟨nx2, hnx2, rfl⟩ := jnat hp4 hbx2 (by decide); clear hbx0 hbx1 hbx2; clear hp0 hp1 hp2 hp4; have hcs := (jband (decide_eq_true hp3) (jband (decide_eq_true hp5) (jband (decide_eq_true c1) (jband (decide_eq_true c25) (jband (decide_eq_true c56) (jband (decide_eq_true c73) (jband (decide_eq_true c81) (decide_eq_true c101)))))))); clear hp3 hp5 c1 c25 c56 c73 c81 c101; apply of_decide_eq_true; revert hcs; revert nx2; revert nx1; revert nx0; decide +kernel)⟩, rfl⟩)
          · refine J_iconst (v := 1) dX7_turned_84 (by decide) ?_
            refine J_goto (tgt := 89) dX7_turned_85 (by decide) ?_
            refine J_istore dX7_turned_89 rfl (by decide) ?_
            refine J_iload_n dX7_turned_91 rfl ?_
            refine J_bipush (v := 8) dX7_turned_92 (by decide) ?_
            refine J_idiv dX7_turned_94 (by decide) ?_
            refine J_iload_n dX7_turned_95 rfl ?_
            refine J_callS2 moX7_axis jw_ml_X7_98 jw_st_X7_axis dX7_turned_96 (w_X7_axis_z (d - 1) _ _ _ (by omega) (jdiv8 hp2 (by have q := jtur_cases x0.toInt; omega)).1 (jdiv8 hp2 (by have q := jtur_cases x0.toInt; omega)).2 (jmod3 hp4 (by have q := jdir_cases x0.toInt; omega)).1 (jmod3 hp4 (by have q := jdir_cases x0.toInt; omega)).2) (by omega) (Nat.zero_le _) (Nat.zero_le _) (Nat.le_of_ble_eq_true rfl) (fun r96 V96 h96 => ?_)
            obtain ⟨⟨_, rfl, -, -, rfl⟩, hE96⟩ := h96
            have hE96 := hE96.symm
            subst hE96
            refine J_iload dX7_turned_99 rfl ?_
            refine J_if_eq (tgt := 108) dX7_turned_101 (by decide) (fun c101 => ?_) (fun c101 => ?_)
            · refine J_iconst (v := 0) dX7_turned_108 (by decide) ?_
              refine J_iadd dX7_turned_109 ?_
              exact J_ret (r := some (.int _)) dX7_turned_110 ⟨rfl, _, rfl, rfl⟩ (⟨⟨_, rfl, (j_rng _).1, (j_rng _).2, (by have hbx0 : x0.toInt < 4 := (show x0.toInt < 4 by omega); have hbx1 : x1.toInt < 48 := (by have q := jtur_cases x0.toInt; omega); have hbx2 : x2.toInt < 6 := (by have q := jdir_cases x0.toInt; omega); obtain ⟨nx0, hnx0, rfl⟩ := jnat hp0 hbx0 (by decide); obtain ⟨nx1, hnx1, rfl⟩ := jnat hp2 hbx1 (by decide); obtain ⟨nx2, hnx2, rfl⟩ := jnat hp4 hbx2 (by decide); clear hbx0 hbx1 hbx2; clear hp0 hp1 hp2 hp4; have hcs := (jband (decide_eq_true hp3) (jband (decide_eq_true hp5) (jband (decide_eq_true c1) (jband (decide_eq_true c25) (jband (decide_eq_true c56) (jband (decide_eq_true c73) (jband (decide_eq_true c81) (decide_eq_true c101)))))))); clear hp3 hp5 c1 c25 c56 c73 c81 c101; apply of_decide_eq_true; revert hcs; revert nx2; revert nx1; revert nx0; decide +kernel)⟩, rfl⟩)
            · refine J_iconst (v := 3) dX7_turned_104 (by decide) ?_
              refine J_goto (tgt := 109) dX7_turned_105 (by decide) ?_
              refine J_iadd dX7_turned_109 ?_
              exact J_ret (r := some (.int _)) dX7_turned_110 ⟨rfl, _, rfl, rfl⟩ (⟨⟨_, rfl, (j_rng _).1, (j_rng _).2, (by have hbx0 : x0.toInt < 4 := (show x0.toInt < 4 by omega); have hbx1 : x1.toInt < 48 := (by have q := jtur_cases x0.toInt; omega); have hbx2 : x2.toInt < 6 := (by have q := jdir_cases x0.toInt; omega); obtain ⟨nx0, hnx0, rfl⟩ := jnat hp0 hbx0 (by decide); obtain ⟨nx1, hnx1, rfl⟩ := jnat hp2 hbx1 (by decide); obtain ⟨nx2, hnx2, rfl⟩ := jnat hp4 hbx2 (by decide); clear hbx0 hbx1 hbx2; clear hp0 hp1 hp2 hp4; have hcs := (jband (decide_eq_true hp3) (jband (decide_eq_true hp5) (jband (decide_eq_true c1) (jband (decide_eq_true c25) (jband (decide_eq_true c56) (jband (decide_eq_true c73) (jband (decide_eq_true c81) (decide_eq_true c101)))))))); clear hp3 hp5 c1 c25 c56 c73 c81 c101; apply of_decide_eq_true; revert hcs; revert nx2; revert nx1; revert nx0; decide +kernel)⟩, rfl⟩)
      · refine J_iconst (v := 1) dX7_turned_59 (by decide) ?_
        refine J_goto (tgt := 64) dX7_turned_60 (by decide) ?_
        refine J_iload_n dX7_turned_64 rfl ?_
        refine J_bipush (v := 8) dX7_turned_65 (by decide) ?_
        refine J_irem dX7_turned_67 (by decide) ?_
        refine J_iload_n dX7_turned_68 rfl ?_
        refine J_ishr dX7_turned_69 ?_
        refine J_iconst (v := 1) dX7_turned_70 (by decide) ?_
        refine J_iand dX7_turned_71 ?_
        refine J_iconst (v := 1) dX7_turned_72 (by decide) ?_
        refine J_icmp_ne (tgt := 80) dX7_turned_73 (by decide) (fun c73 => ?_) (fun c73 => ?_)
        · refine J_iconst (v := 0) dX7_turned_80 (by decide) ?_
          refine J_icmp_eq (tgt := 88) dX7_turned_81 (by decide) (fun c81 => ?_) (fun c81 => ?_)
          · refine J_iconst (v := 0) dX7_turned_88 (by decide) ?_
            refine J_istore dX7_turned_89 rfl (by decide) ?_
            refine J_iload_n dX7_turned_91 rfl ?_
            refine J_bipush (v := 8) dX7_turned_92 (by decide) ?_
            refine J_idiv dX7_turned_94 (by decide) ?_
            refine J_iload_n dX7_turned_95 rfl ?_
            refine J_callS2 moX7_axis jw_ml_X7_98 jw_st_X7_axis dX7_turned_96 (w_X7_axis_z (d - 1) _ _ _ (by omega) (jdiv8 hp2 (by have q := jtur_cases x0.toInt; omega)).1 (jdiv8 hp2 (by have q := jtur_cases x0.toInt; omega)).2 (jmod3 hp4 (by have q := jdir_cases x0.toInt; omega)).1 (jmod3 hp4 (by have q := jdir_cases x0.toInt; omega)).2) (by omega) (Nat.zero_le _) (Nat.zero_le _) (Nat.le_of_ble_eq_true rfl) (fun r96 V96 h96 => ?_)
            obtain ⟨⟨_, rfl, -, -, rfl⟩, hE96⟩ := h96
            have hE96 := hE96.symm
            subst hE96
            refine J_iload dX7_turned_99 rfl ?_
            refine J_if_eq (tgt := 108) dX7_turned_101 (by decide) (fun c101 => ?_) (fun c101 => ?_)
            · refine J_iconst (v := 0) dX7_turned_108 (by decide) ?_
              refine J_iadd dX7_turned_109 ?_
              exact J_ret (r := some (.int _)) dX7_turned_110 ⟨rfl, _, rfl, rfl⟩ (⟨⟨_, rfl, (j_rng _).1, (j_rng _).2, (by have hbx0 : x0.toInt < 4 := (show x0.toInt < 4 by omega); have hbx1 : x1.toInt < 48 := (by have q := jtur_cases x0.toInt; omega); have hbx2 : x2.toInt < 6 := (by have q := jdir_cases x0.toInt; omega); obtain ⟨nx0, hnx0, rfl⟩ := jnat hp0 hbx0 (by decide); obtain ⟨nx1, hnx1, rfl⟩ := jnat hp2 hbx1 (by decide); obtain ⟨nx2, hnx2, rfl⟩ := jnat hp4 hbx2 (by decide); clear hbx0 hbx1 hbx2; clear hp0 hp1 hp2 hp4; have hcs := (jband (decide_eq_true hp3) (jband (decide_eq_true hp5) (jband (decide_eq_true c1) (jband (decide_eq_true c25) (jband (decide_eq_true c56) (jband (decide_eq_true c73) (jband (decide_eq_true c81) (decide_eq_true c101)))))))); clear hp3 hp5 c1 c25 c56 c73 c81 c101; apply of_decide_eq_true; revert hcs; revert nx2; revert nx1; revert nx0; decide +kernel)⟩, rfl⟩)
            · refine J_iconst (v := 3) dX7_turned_104 (by decide) ?_
              refine J_goto (tgt := 109) dX7_turned_105 (by decide) ?_
              refine J_iadd dX7_turned_109 ?_
              exact J_ret (r := some (.int _)) dX7_turned_110 ⟨rfl, _, rfl, rfl⟩ (⟨⟨_, rfl, (j_rng _).1, (j_rng _).2, (by have hbx0 : x0.toInt < 4 := (show x0.toInt < 4 by omega); have hbx1 : x1.toInt < 48 := (by have q := jtur_cases x0.toInt; omega); have hbx2 : x2.toInt < 6 := (by have q := jdir_cases x0.toInt; omega); obtain ⟨nx0, hnx0, rfl⟩ := jnat hp0 hbx0 (by decide); obtain ⟨nx1, hnx1, rfl⟩ := jnat hp2 hbx1 (by decide); obtain ⟨nx2, hnx2, rfl⟩ := jnat hp4 hbx2 (by decide); clear hbx0 hbx1 hbx2; clear hp0 hp1 hp2 hp4; have hcs := (jband (decide_eq_true hp3) (jband (decide_eq_true hp5) (jband (decide_eq_true c1) (jband (decide_eq_true c25) (jband (decide_eq_true c56) (jband (decide_eq_true c73) (jband (decide_eq_true c81) (decide_eq_true c101)))))))); clear hp3 hp5 c1 c25 c56 c73 c81 c101; apply of_decide_eq_true; revert hcs; revert nx2; revert nx1; revert nx0; decide +kernel)⟩, rfl⟩)
          · refine J_iconst (v := 1) dX7_turned_84 (by decide) ?_
            refine J_goto (tgt := 89) dX7_turned_85 (by decide) ?_
            refine J_istore dX7_turned_89 rfl (by decide) ?_
            refine J_iload_n dX7_turned_91 rfl ?_
            refine J_bipush (v := 8) dX7_turned_92 (by decide) ?_
            refine J_idiv dX7_turned_94 (by decide) ?_
            refine J_iload_n dX7_turned_95 rfl ?_
            refine J_callS2 moX7_axis jw_ml_X7_98 jw_st_X7_axis dX7_turned_96 (w_X7_axis_z (d - 1) _ _ _ (by omega) (jdiv8 hp2 (by have q := jtur_cases x0.toInt; omega)).1 (jdiv8 hp2 (by have q := jtur_cases x0.toInt; omega)).2 (jmod3 hp4 (by have q := jdir_cases x0.toInt; omega)).1 (jmod3 hp4 (by have q := jdir_cases x0.toInt; omega)).2) (by omega) (Nat.zero_le _) (Nat.zero_le _) (Nat.le_of_ble_eq_true rfl) (fun r96 V96 h96 => ?_)
            obtain ⟨⟨_, rfl, -, -, rfl⟩, hE96⟩ := h96
            have hE96 := hE96.symm
            subst hE96
            refine J_iload dX7_turned_99 rfl ?_
            refine J_if_eq (tgt := 108) dX7_turned_101 (by decide) (fun c101 => ?_) (fun c101 => ?_)
            · refine J_iconst (v := 0) dX7_turned_108 (by decide) ?_
              refine J_iadd dX7_turned_109 ?_
              exact J_ret (r := some (.int _)) dX7_turned_110 ⟨rfl, _, rfl, rfl⟩ (⟨⟨_, rfl, (j_rng _).1, (j_rng _).2, (by have hbx0 : x0.toInt < 4 := (show x0.toInt < 4 by omega); have hbx1 : x1.toInt < 48 := (by have q := jtur_cases x0.toInt; omega); have hbx2 : x2.toInt < 6 := (by have q := jdir_cases x0.toInt; omega); obtain ⟨nx0, hnx0, rfl⟩ := jnat hp0 hbx0 (by decide); obtain ⟨nx1, hnx1, rfl⟩ := jnat hp2 hbx1 (by decide); obtain ⟨nx2, hnx2, rfl⟩ := jnat hp4 hbx2 (by decide); clear hbx0 hbx1 hbx2; clear hp0 hp1 hp2 hp4; have hcs := (jband (decide_eq_true hp3) (jband (decide_eq_true hp5) (jband (decide_eq_true c1) (jband (decide_eq_true c25) (jband (decide_eq_true c56) (jband (decide_eq_true c73) (jband (decide_eq_true c81) (decide_eq_true c101)))))))); clear hp3 hp5 c1 c25 c56 c73 c81 c101; apply of_decide_eq_true; revert hcs; revert nx2; revert nx1; revert nx0; decide +kernel)⟩, rfl⟩)
            · refine J_iconst (v := 3) dX7_turned_104 (by decide) ?_
              refine J_goto (tgt := 109) dX7_turned_105 (by decide) ?_
              refine J_iadd dX7_turned_109 ?_
              exact J_ret (r := some (.int _)) dX7_turned_110 ⟨rfl, _, rfl, rfl⟩ (⟨⟨_, rfl, (j_rng _).1, (j_rng _).2, (by have hbx0 : x0.toInt < 4 := (show x0.toInt < 4 by omega); have hbx1 : x1.toInt < 48 := (by have q := jtur_cases x0.toInt; omega); have hbx2 : x2.toInt < 6 := (by have q := jdir_cases x0.toInt; omega); obtain ⟨nx0, hnx0, rfl⟩ := jnat hp0 hbx0 (by decide); obtain ⟨nx1, hnx1, rfl⟩ := jnat hp2 hbx1 (by decide); obtain ⟨nx2, hnx2, rfl⟩ := jnat hp4 hbx2 (by decide); clear hbx0 hbx1 hbx2; clear hp0 hp1 hp2 hp4; have hcs := (jband (decide_eq_true hp3) (jband (decide_eq_true hp5) (jband (decide_eq_true c1) (jband (decide_eq_true c25) (jband (decide_eq_true c56) (jband (decide_eq_true c73) (jband (decide_eq_true c81) (decide_eq_true c101)))))))); clear hp3 hp5 c1 c25 c56 c73 c81 c101; apply of_decide_eq_true; revert hcs; revert nx2; revert nx1; revert nx0; decide +kernel)⟩, rfl⟩)
        · refine J_iconst (v := 1) dX7_turned_76 (by decide) ?_
          refine J_goto (tgt := 81) dX7_turned_77 (by decide) ?_
          refine J_icmp_eq (tgt := 88) dX7_turned_81 (by decide) (fun c81 => ?_) (fun c81 => ?_)
          · refine J_iconst (v := 0) dX7_turned_88 (by decide) ?_
            refine J_istore dX7_turned_89 rfl (by decide) ?_
            refine J_iload_n dX7_turned_91 rfl ?_
            refine J_bipush (v := 8) dX7_turned_92 (by decide) ?_
            refine J_idiv dX7_turned_94 (by decide) ?_
            refine J_iload_n dX7_turned_95 rfl ?_
            refine J_callS2 moX7_axis jw_ml_X7_98 jw_st_X7_axis dX7_turned_96 (w_X7_axis_z (d - 1) _ _ _ (by omega) (jdiv8 hp2 (by have q := jtur_cases x0.toInt; omega)).1 (jdiv8 hp2 (by have q := jtur_cases x0.toInt; omega)).2 (jmod3 hp4 (by have q := jdir_cases x0.toInt; omega)).1 (jmod3 hp4 (by have q := jdir_cases x0.toInt; omega)).2) (by omega) (Nat.zero_le _) (Nat.zero_le _) (Nat.le_of_ble_eq_true rfl) (fun r96 V96 h96 => ?_)
            obtain ⟨⟨_, rfl, -, -, rfl⟩, hE96⟩ := h96
            have hE96 := hE96.symm
            subst hE96
            refine J_iload dX7_turned_99 rfl ?_
            refine J_if_eq (tgt := 108) dX7_turned_101 (by decide) (fun c101 => ?_) (fun c101 => ?_)
            · refine J_iconst (v := 0) dX7_turned_108 (by decide) ?_
              refine J_iadd dX7_turned_109 ?_
              exact J_ret (r := some (.int _)) dX7_turned_110 ⟨rfl, _, rfl, rfl⟩ (⟨⟨_, rfl, (j_rng _).1, (j_rng _).2, (by have hbx0 : x0.toInt < 4 := (show x0.toInt < 4 by omega); have hbx1 : x1.toInt < 48 := (by have q := jtur_cases x0.toInt; omega); have hbx2 : x2.toInt < 6 := (by have q := jdir_cases x0.toInt; omega); obtain ⟨nx0, hnx0, rfl⟩ := jnat hp0 hbx0 (by decide); obtain ⟨nx1, hnx1, rfl⟩ := jnat hp2 hbx1 (by decide); obtain ⟨nx2, hnx2, rfl⟩ := jnat hp4 hbx2 (by decide); clear hbx0 hbx1 hbx2; clear hp0 hp1 hp2 hp4; have hcs := (jband (decide_eq_true hp3) (jband (decide_eq_true hp5) (jband (decide_eq_true c1) (jband (decide_eq_true c25) (jband (decide_eq_true c56) (jband (decide_eq_true c73) (jband (decide_eq_true c81) (decide_eq_true c101)))))))); clear hp3 hp5 c1 c25 c56 c73 c81 c101; apply of_decide_eq_true; revert hcs; revert nx2; revert nx1; revert nx0; decide +kernel)⟩, rfl⟩)
            · refine J_iconst (v := 3) dX7_turned_104 (by decide) ?_
              refine J_goto (tgt := 109) dX7_turned_105 (by decide) ?_
              refine J_iadd dX7_turned_109 ?_
              exact J_ret (r := some (.int _)) dX7_turned_110 ⟨rfl, _, rfl, rfl⟩ (⟨⟨_, rfl, (j_rng _).1, (j_rng _).2, (by have hbx0 : x0.toInt < 4 := (show x0.toInt < 4 by omega); have hbx1 : x1.toInt < 48 := (by have q := jtur_cases x0.toInt; omega); have hbx2 : x2.toInt < 6 := (by have q := jdir_cases x0.toInt; omega); obtain ⟨nx0, hnx0, rfl⟩ := jnat hp0 hbx0 (by decide); obtain ⟨nx1, hnx1, rfl⟩ := jnat hp2 hbx1 (by decide); obtain ⟨nx2, hnx2, rfl⟩ := jnat hp4 hbx2 (by decide); clear hbx0 hbx1 hbx2; clear hp0 hp1 hp2 hp4; have hcs := (jband (decide_eq_true hp3) (jband (decide_eq_true hp5) (jband (decide_eq_true c1) (jband (decide_eq_true c25) (jband (decide_eq_true c56) (jband (decide_eq_true c73) (jband (decide_eq_true c81) (decide_eq_true c101)))))))); clear hp3 hp5 c1 c25 c56 c73 c81 c101; apply of_decide_eq_true; revert hcs; revert nx2; revert nx1; revert nx0; decide +kernel)⟩, rfl⟩)
          · refine J_iconst (v := 1) dX7_turned_84 (by decide) ?_
            refine J_goto (tgt := 89) dX7_turned_85 (by decide) ?_
            refine J_istore dX7_turned_89 rfl (by decide) ?_
            refine J_iload_n dX7_turned_91 rfl ?_
            refine J_bipush (v := 8) dX7_turned_92 (by decide) ?_
            refine J_idiv dX7_turned_94 (by decide) ?_
            refine J_iload_n dX7_turned_95 rfl ?_
            refine J_callS2 moX7_axis jw_ml_X7_98 jw_st_X7_axis dX7_turned_96 (w_X7_axis_z (d - 1) _ _ _ (by omega) (jdiv8 hp2 (by have q := jtur_cases x0.toInt; omega)).1 (jdiv8 hp2 (by have q := jtur_cases x0.toInt; omega)).2 (jmod3 hp4 (by have q := jdir_cases x0.toInt; omega)).1 (jmod3 hp4 (by have q := jdir_cases x0.toInt; omega)).2) (by omega) (Nat.zero_le _) (Nat.zero_le _) (Nat.le_of_ble_eq_true rfl) (fun r96 V96 h96 => ?_)
            obtain ⟨⟨_, rfl, -, -, rfl⟩, hE96⟩ := h96
            have hE96 := hE96.symm
            subst hE96
            refine J_iload dX7_turned_99 rfl ?_
            refine J_if_eq (tgt := 108) dX7_turned_101 (by decide) (fun c101 => ?_) (fun c101 => ?_)
            · refine J_iconst (v := 0) dX7_turned_108 (by decide) ?_
              refine J_iadd dX7_turned_109 ?_
              exact J_ret (r := some (.int _)) dX7_turned_110 ⟨rfl, _, rfl, rfl⟩ (⟨⟨_, rfl, (j_rng _).1, (j_rng _).2, (by have hbx0 : x0.toInt < 4 := (show x0.toInt < 4 by omega); have hbx1 : x1.toInt < 48 := (by have q := jtur_cases x0.toInt; omega); have hbx2 : x2.toInt < 6 := (by have q := jdir_cases x0.toInt; omega); obtain ⟨nx0, hnx0, rfl⟩ := jnat hp0 hbx0 (by decide); obtain ⟨nx1, hnx1, rfl⟩ := jnat hp2 hbx1 (by decide); obtain ⟨nx2, hnx2, rfl⟩ := jnat hp4 hbx2 (by decide); clear hbx0 hbx1 hbx2; clear hp0 hp1 hp2 hp4; have hcs := (jband (decide_eq_true hp3) (jband (decide_eq_true hp5) (jband (decide_eq_true c1) (jband (decide_eq_true c25) (jband (decide_eq_true c56) (jband (decide_eq_true c73) (jband (decide_eq_true c81) (decide_eq_true c101)))))))); clear hp3 hp5 c1 c25 c56 c73 c81 c101; apply of_decide_eq_true; revert hcs; revert nx2; revert nx1; revert nx0; decide +kernel)⟩, rfl⟩)
            · refine J_iconst (v := 3) dX7_turned_104 (by decide) ?_
              refine J_goto (tgt := 109) dX7_turned_105 (by decide) ?_
              refine J_iadd dX7_turned_109 ?_
              exact J_ret (r := some (.int _)) dX7_turned_110 ⟨rfl, _, rfl, rfl⟩ (⟨⟨_, rfl, (j_rng _).1, (j_rng _).2, (by have hbx0 : x0.toInt < 4 := (show x0.toInt < 4 by omega); have hbx1 : x1.toInt < 48 := (by have q := jtur_cases x0.toInt; omega); have hbx2 : x2.toInt < 6 := (by have q := jdir_cases x0.toInt; omega); obtain ⟨nx0, hnx0, rfl⟩ := jnat hp0 hbx0 (by decide); obtain ⟨nx1, hnx1, rfl⟩ := jnat hp2 hbx1 (by decide); obtain ⟨nx2, hnx2, rfl⟩ := jnat hp4 hbx2 (by decide); clear hbx0 hbx1 hbx2; clear hp0 hp1 hp2 hp4; have hcs := (jband (decide_eq_true hp3) (jband (decide_eq_true hp5) (jband (decide_eq_true c1) (jband (decide_eq_true c25) (jband (decide_eq_true c56) (jband (decide_eq_true c73) (jband (decide_eq_true c81) (decide_eq_true c101)))))))); clear hp3 hp5 c1 c25 c56 c73 c81 c101; apply of_decide_eq_true; revert hcs; revert nx2; revert nx1; revert nx0; decide +kernel)⟩, rfl⟩)
    · refine J_iload_n dX7_turned_28 rfl ?_
      refine J_bipush (v := 6) dX7_turned_29 (by decide) ?_
      refine J_icmp_ge (tgt := 43) dX7_turned_31 (by decide) (fun c31 => ?_) (fun c31 => ?_)
      · refine J_iload_n dX7_turned_43 rfl ?_
        refine J_iload_n dX7_turned_44 rfl ?_
        refine J_isub dX7_turned_45 ?_
        refine J_bipush (v := 6) dX7_turned_46 (by decide) ?_
        refine J_irem dX7_turned_48 (by decide) ?_
        exact J_ret (r := some (.int _)) dX7_turned_49 ⟨rfl, _, rfl, rfl⟩ (⟨⟨_, rfl, (j_rng _).1, (j_rng _).2, (by have hbx0 : x0.toInt < 4 := (show x0.toInt < 4 by omega); have hbx1 : x1.toInt < 48 := (by have q := jtur_cases x0.toInt; omega); have hbx2 : x2.toInt < 6 := (by have q := jdir_cases x0.toInt; omega); obtain ⟨nx0, hnx0, rfl⟩ := jnat hp0 hbx0 (by decide); obtain ⟨nx1, hnx1, rfl⟩ := jnat hp2 hbx1 (by decide); obtain ⟨nx2, hnx2, rfl⟩ := jnat hp4 hbx2 (by decide); clear hbx0 hbx1 hbx2; clear hp0 hp1 hp2 hp4; have hcs := (jband (decide_eq_true hp3) (jband (decide_eq_true hp5) (jband (decide_eq_true c1) (jband (decide_eq_true c25) (decide_eq_true c31))))); clear hp3 hp5 c1 c25 c31; apply of_decide_eq_true; revert hcs; revert nx2; revert nx1; revert nx0; decide +kernel)⟩, rfl⟩)
      · refine J_iload_n dX7_turned_34 rfl ?_
        refine J_iload_n dX7_turned_35 rfl ?_
        refine J_iadd dX7_turned_36 ?_
        refine J_bipush (v := 6) dX7_turned_37 (by decide) ?_
        refine J_irem dX7_turned_39 (by decide) ?_
        refine J_goto (tgt := 49) dX7_turned_40 (by decide) ?_
        exact J_ret (r := some (.int _)) dX7_turned_49 ⟨rfl, _, rfl, rfl⟩ (⟨⟨_, rfl, (j_rng _).1, (j_rng _).2, (by have hbx0 : x0.toInt < 4 := (show x0.toInt < 4 by omega); have hbx1 : x1.toInt < 48 := (by have q := jtur_cases x0.toInt; omega); have hbx2 : x2.toInt < 6 := (by have q := jdir_cases x0.toInt; omega); obtain ⟨nx0, hnx0, rfl⟩ := jnat hp0 hbx0 (by decide); obtain ⟨nx1, hnx1, rfl⟩ := jnat hp2 hbx1 (by decide); obtain ⟨nx2, hnx2, rfl⟩ := jnat hp4 hbx2 (by decide); clear hbx0 hbx1 hbx2; clear hp0 hp1 hp2 hp4; have hcs := (jband (decide_eq_true hp3) (jband (decide_eq_true hp5) (jband (decide_eq_true c1) (jband (decide_eq_true c25) (decide_eq_true c31))))); clear hp3 hp5 c1 c25 c31; apply of_decide_eq_true; revert hcs; revert nx2; revert nx1; revert nx0; decide +kernel)⟩, rfl⟩)
  · refine J_iload_n dX7_turned_4 rfl ?_
    refine J_iconst (v := 4) dX7_turned_5 (by decide) ?_
    refine J_icmp_ge (tgt := 17) dX7_turned_6 (by decide) (fun c6 => ?_) (fun c6 => ?_)
    · refine J_iload_n dX7_turned_17 rfl ?_
      refine J_iload_n dX7_turned_18 rfl ?_
      refine J_isub dX7_turned_19 ?_
      refine J_iconst (v := 4) dX7_turned_20 (by decide) ?_
      refine J_irem dX7_turned_21 (by decide) ?_
      exact J_ret (r := some (.int _)) dX7_turned_22 ⟨rfl, _, rfl, rfl⟩ (⟨⟨_, rfl, (j_rng _).1, (j_rng _).2, (by have hbx0 : x0.toInt < 4 := (show x0.toInt < 4 by omega); have hbx1 : x1.toInt < 48 := (by have q := jtur_cases x0.toInt; omega); have hbx2 : x2.toInt < 6 := (by have q := jdir_cases x0.toInt; omega); obtain ⟨nx0, hnx0, rfl⟩ := jnat hp0 hbx0 (by decide); obtain ⟨nx1, hnx1, rfl⟩ := jnat hp2 hbx1 (by decide); obtain ⟨nx2, hnx2, rfl⟩ := jnat hp4 hbx2 (by decide); clear hbx0 hbx1 hbx2; clear hp0 hp1 hp2 hp4; have hcs := (jband (decide_eq_true hp3) (jband (decide_eq_true hp5) (jband (decide_eq_true c1) (decide_eq_true c6)))); clear hp3 hp5 c1 c6; apply of_decide_eq_true; revert hcs; revert nx2; revert nx1; revert nx0; decide +kernel)⟩, rfl⟩)
    · refine J_iload_n dX7_turned_9 rfl ?_
      refine J_iload_n dX7_turned_10 rfl ?_
      refine J_iadd dX7_turned_11 ?_
      refine J_iconst (v := 4) dX7_turned_12 (by decide) ?_
      refine J_irem dX7_turned_13 (by decide) ?_
      refine J_goto (tgt := 22) dX7_turned_14 (by decide) ?_
      exact J_ret (r := some (.int _)) dX7_turned_22 ⟨rfl, _, rfl, rfl⟩ (⟨⟨_, rfl, (j_rng _).1, (j_rng _).2, (by have hbx0 : x0.toInt < 4 := (show x0.toInt < 4 by omega); have hbx1 : x1.toInt < 48 := (by have q := jtur_cases x0.toInt; omega); have hbx2 : x2.toInt < 6 := (by have q := jdir_cases x0.toInt; omega); obtain ⟨nx0, hnx0, rfl⟩ := jnat hp0 hbx0 (by decide); obtain ⟨nx1, hnx1, rfl⟩ := jnat hp2 hbx1 (by decide); obtain ⟨nx2, hnx2, rfl⟩ := jnat hp4 hbx2 (by decide); clear hbx0 hbx1 hbx2; clear hp0 hp1 hp2 hp4; have hcs := (jband (decide_eq_true hp3) (jband (decide_eq_true hp5) (jband (decide_eq_true c1) (decide_eq_true c6)))); clear hp3 hp5 c1 c6; apply of_decide_eq_true; revert hcs; revert nx2; revert nx1; revert nx0; decide +kernel)⟩, rfl⟩)
set_option maxRecDepth 100000 in
set_option maxHeartbeats 4000000 in
theorem w_X7_opposite_z {tS : jTS} (d : Nat) (V0 : jH) (x0 : Int32) (x1 : Int32)  (hd : 0 ≤ d)    (hp0 : 0 ≤ x0.toInt) (hp1 : x0.toInt ≤ 3) (hp2 : 0 ≤ x1.toInt) (hp3 : x1.toInt < jdir x0.toInt) : jTot tS mX7_opposite d [.int x0, .int x1] V0 0 0 (fun r V => (fun r _ => ∃ y : Int32, r = some (.int y) ∧ ((-2147483648) ≤ y.toInt) ∧ (y.toInt ≤ 2147483647) ∧ (y.toInt = jopp x0.toInt x1.toInt)) r V ∧ V = V0) := by
  refine jTot.of_J [some (.int x0), some (.int x1)] moX7_opposite (Nat.le_of_ble_eq_true rfl) rfl ?_
  refine J_iload_n dX7_opposite_0 rfl ?_
  refine J_if_ne (tgt := 12) dX7_opposite_1 (by decide) (fun c1 => ?_) (fun c1 => ?_)
  · refine J_iload_n dX7_opposite_12 rfl ?_
    refine J_iconst (v := 2) dX7_opposite_13 (by decide) ?_
    refine J_icmp_ne (tgt := 32) dX7_opposite_14 (by decide) (fun c14 => ?_) (fun c14 => ?_)
    · refine J_iload_n dX7_opposite_32 rfl ?_
      refine J_iconst (v := 3) dX7_opposite_33 (by decide) ?_
      refine J_iadd dX7_opposite_34 ?_
      refine J_bipush (v := 6) dX7_opposite_35 (by decide) ?_
      refine J_irem dX7_opposite_37 (by decide) ?_
      exact J_ret (r := some (.int _)) dX7_opposite_38 ⟨rfl, _, rfl, rfl⟩ (⟨⟨_, rfl, (j_rng _).1, (j_rng _).2, (by have hbx0 : x0.toInt < 4 := (show x0.toInt < 4 by omega); have hbx1 : x1.toInt < 6 := (by have q := jdir_cases x0.toInt; omega); obtain ⟨nx0, hnx0, rfl⟩ := jnat hp0 hbx0 (by decide); obtain ⟨nx1, hnx1, rfl⟩ := jnat hp2 hbx1 (by decide); clear hbx0 hbx1; clear hp0 hp1 hp2 hp3; have hcs := (jband (decide_eq_true c1) (decide_eq_true c14)); clear c1 c14; apply of_decide_eq_true; revert hcs; revert nx1; revert nx0; decide +kernel)⟩, rfl⟩)
    · refine J_iload_n dX7_opposite_17 rfl ?_
      refine J_iconst (v := 2) dX7_opposite_18 (by decide) ?_
      refine J_icmp_ne (tgt := 26) dX7_opposite_19 (by decide) (fun c19 => ?_) (fun c19 => ?_)
      · refine J_iconst (v := 1) dX7_opposite_26 (by decide) ?_
        refine J_iload_n dX7_opposite_27 rfl ?_
        refine J_isub dX7_opposite_28 ?_
        refine J_goto (tgt := 38) dX7_opposite_29 (by decide) ?_
        exact J_ret (r := some (.int _)) dX7_opposite_38 ⟨rfl, _, rfl, rfl⟩ (⟨⟨_, rfl, (j_rng _).1, (j_rng _).2, (by have hbx0 : x0.toInt < 4 := (show x0.toInt < 4 by omega); have hbx1 : x1.toInt < 6 := (by have q := jdir_cases x0.toInt; omega); obtain ⟨nx0, hnx0, rfl⟩ := jnat hp0 hbx0 (by decide); obtain ⟨nx1, hnx1, rfl⟩ := jnat hp2 hbx1 (by decide); clear hbx0 hbx1; clear hp0 hp1 hp2 hp3; have hcs := (jband (decide_eq_true c1) (jband (decide_eq_true c14) (decide_eq_true c19))); clear c1 c14 c19; apply of_decide_eq_true; revert hcs; revert nx1; revert nx0; decide +kernel)⟩, rfl⟩)
      · refine J_iconst (v := 2) dX7_opposite_22 (by decide) ?_
        refine J_goto (tgt := 38) dX7_opposite_23 (by decide) ?_
        exact J_ret (r := some (.int _)) dX7_opposite_38 ⟨rfl, _, rfl, rfl⟩ (⟨⟨_, rfl, (j_rng _).1, (j_rng _).2, (by have hbx0 : x0.toInt < 4 := (show x0.toInt < 4 by omega); have hbx1 : x1.toInt < 6 := (by have q := jdir_cases x0.toInt; omega); obtain ⟨nx0, hnx0, rfl⟩ := jnat hp0 hbx0 (by decide); obtain ⟨nx1, hnx1, rfl⟩ := jnat hp2 hbx1 (by decide); clear hbx0 hbx1; clear hp0 hp1 hp2 hp3; have hcs := (jband (decide_eq_true c1) (jband (decide_eq_true c14) (decide_eq_true c19))); clear c1 c14 c19; apply of_decide_eq_true; revert hcs; revert nx1; revert nx0; decide +kernel)⟩, rfl⟩)
  · refine J_iload_n dX7_opposite_4 rfl ?_
    refine J_iconst (v := 2) dX7_opposite_5 (by decide) ?_
    refine J_iadd dX7_opposite_6 ?_
    refine J_iconst (v := 4) dX7_opposite_7 (by decide) ?_
    refine J_irem dX7_opposite_8 (by decide) ?_
    refine J_goto (tgt := 38) dX7_opposite_9 (by decide) ?_
    exact J_ret (r := some (.int _)) dX7_opposite_38 ⟨rfl, _, rfl, rfl⟩ (⟨⟨_, rfl, (j_rng _).1, (j_rng _).2, (by have hbx0 : x0.toInt < 4 := (show x0.toInt < 4 by omega); have hbx1 : x1.toInt < 6 := (by have q := jdir_cases x0.toInt; omega); obtain ⟨nx0, hnx0, rfl⟩ := jnat hp0 hbx0 (by decide); obtain ⟨nx1, hnx1, rfl⟩ := jnat hp2 hbx1 (by decide); clear hbx0 hbx1; clear hp0 hp1 hp2 hp3; have hcs := (decide_eq_true c1); clear c1; apply of_decide_eq_true; revert hcs; revert nx1; revert nx0; decide +kernel)⟩, rfl⟩)
set_option maxRecDepth 100000 in
set_option maxHeartbeats 8000000 in
theorem w_X7_in {tS : jTS} (d : Nat) (V0 : jH) (x0 : Int32) (x1 : Int32) (x2 : Int32) (hd : 0 ≤ d)   : jTot tS mX7_in d [.int x0, .int x1, .int x2] V0 0 0 (fun r V => (fun r _ => ∃ y : Int32, r = some (.int y) ∧ (0 ≤ y.toInt) ∧ (y.toInt ≤ 1) ∧ (jIf y 1 (x1.toInt ≤ x0.toInt ∧ x0.toInt ≤ x2.toInt)) ∧ (jIf y 0 (¬ (x1.toInt ≤ x0.toInt ∧ x0.toInt ≤ x2.toInt)))) r V ∧ V = V0) := by
  refine jTot.of_J [some (.int x0), some (.int x1), some (.int x2)] moX7_in (Nat.le_of_ble_eq_true rfl) rfl ?_
  have hrx0 := j_rng x0
  have hrx1 := j_rng x1
  have hrx2 := j_rng x2
  refine J_iload_n dX7_in_0 rfl ?_
  refine J_iload_n dX7_in_1 rfl ?_
  refine Jz_icmp_lt (tgt := 14) jEq.rf jEq.rf dX7_in_2 (by decide) (fun c2 => ?_) (fun c2 => ?_)
  · refine Jz_iconst 0 dX7_in_14 (by decide) (fun y14 he14 => ?_)
    exact J_ret (r := some (.int _)) dX7_in_15 ⟨rfl, _, rfl, (nar_b (by (try simp only [he14.eq, true_and, and_true]) <;> omega) (by (try simp only [he14.eq, true_and, and_true]) <;> omega))⟩ (⟨⟨_, rfl, (by (try simp only [he14.eq, true_and, and_true]) <;> omega), (by (try simp only [he14.eq, true_and, and_true]) <;> omega), (fun h => by (try simp only [he14.eq] at h); omega), (fun h => by (try simp only [he14.eq] at h); omega)⟩, rfl⟩)
  · refine J_iload_n dX7_in_5 rfl ?_
    refine J_iload_n dX7_in_6 rfl ?_
    refine Jz_icmp_gt (tgt := 14) jEq.rf jEq.rf dX7_in_7 (by decide) (fun c7 => ?_) (fun c7 => ?_)
    · refine Jz_iconst 0 dX7_in_14 (by decide) (fun y14 he14 => ?_)
      exact J_ret (r := some (.int _)) dX7_in_15 ⟨rfl, _, rfl, (nar_b (by (try simp only [he14.eq, true_and, and_true]) <;> omega) (by (try simp only [he14.eq, true_and, and_true]) <;> omega))⟩ (⟨⟨_, rfl, (by (try simp only [he14.eq, true_and, and_true]) <;> omega), (by (try simp only [he14.eq, true_and, and_true]) <;> omega), (fun h => by (try simp only [he14.eq] at h); omega), (fun h => by (try simp only [he14.eq] at h); omega)⟩, rfl⟩)
    · refine Jz_iconst 1 dX7_in_10 (by decide) (fun y10 he10 => ?_)
      refine J_goto (tgt := 15) dX7_in_11 (by decide) ?_
      exact J_ret (r := some (.int _)) dX7_in_15 ⟨rfl, _, rfl, (nar_b (by (try simp only [he10.eq, true_and, and_true]) <;> omega) (by (try simp only [he10.eq, true_and, and_true]) <;> omega))⟩ (⟨⟨_, rfl, (by (try simp only [he10.eq, true_and, and_true]) <;> omega), (by (try simp only [he10.eq, true_and, and_true]) <;> omega), (fun h => by (try simp only [he10.eq] at h); omega), (fun h => by (try simp only [he10.eq] at h); omega)⟩, rfl⟩)
set_option maxRecDepth 100000 in
set_option maxHeartbeats 8000000 in
theorem w_X7_directions {tS : jTS} (d : Nat) (V0 : jH) (x0 : Int32) (hd : 0 ≤ d)   : jTot tS mX7_directions d [.int x0] V0 0 0 (fun r V => (fun r _ => ∃ y : Int32, r = some (.int y) ∧ (3 ≤ y.toInt) ∧ (y.toInt ≤ 6) ∧ (y.toInt = jdir x0.toInt)) r V ∧ V = V0) := by
  refine jTot.of_J [some (.int x0)] moX7_directions (Nat.le_of_ble_eq_true rfl) rfl ?_
  have hrx0 := j_rng x0
  have hjd := jdir_cases x0.toInt
  refine J_iload_n dX7_directions_0 rfl ?_
  refine Jz_if_ne (tgt := 8) jEq.rf dX7_directions_1 (by decide) (fun c1 => ?_) (fun c1 => ?_)
  · refine J_iload_n dX7_directions_8 rfl ?_
    refine Jz_iconst 2 dX7_directions_9 (by decide) (fun y9 he9 => ?_)
    refine Jz_icmp_ne (tgt := 17) jEq.rf he9 dX7_directions_10 (by decide) (fun c10 => ?_) (fun c10 => ?_)
    · refine Jz_bipush 6 dX7_directions_17 (by decide) (fun y17 he17 => ?_)
      exact J_ret (r := some (.int _)) dX7_directions_19 ⟨rfl, _, rfl, rfl⟩ (⟨⟨_, rfl, (by (try simp only [he17.eq, true_and, and_true]) <;> omega), (by (try simp only [he17.eq, true_and, and_true]) <;> omega), (by (try simp only [he17.eq, true_and, and_true]) <;> omega)⟩, rfl⟩)
    · refine Jz_iconst 3 dX7_directions_13 (by decide) (fun y13 he13 => ?_)
      refine J_goto (tgt := 19) dX7_directions_14 (by decide) ?_
      exact J_ret (r := some (.int _)) dX7_directions_19 ⟨rfl, _, rfl, rfl⟩ (⟨⟨_, rfl, (by (try simp only [he13.eq, true_and, and_true]) <;> omega), (by (try simp only [he13.eq, true_and, and_true]) <;> omega), (by (try simp only [he13.eq, true_and, and_true]) <;> omega)⟩, rfl⟩)
  · refine Jz_iconst 4 dX7_directions_4 (by decide) (fun y4 he4 => ?_)
    refine J_goto (tgt := 19) dX7_directions_5 (by decide) ?_
    exact J_ret (r := some (.int _)) dX7_directions_19 ⟨rfl, _, rfl, rfl⟩ (⟨⟨_, rfl, (by (try simp only [he4.eq, true_and, and_true]) <;> omega), (by (try simp only [he4.eq, true_and, and_true]) <;> omega), (by (try simp only [he4.eq, true_and, and_true]) <;> omega)⟩, rfl⟩)
set_option maxRecDepth 100000 in
set_option maxHeartbeats 8000000 in
theorem w_X7_turns {tS : jTS} (d : Nat) (V0 : jH) (x0 : Int32) (hd : 0 ≤ d)   : jTot tS mX7_turns d [.int x0] V0 0 0 (fun r V => (fun r _ => ∃ y : Int32, r = some (.int y) ∧ (0 ≤ y.toInt) ∧ (y.toInt ≤ 48) ∧ (y.toInt = jtur x0.toInt)) r V ∧ V = V0) := by
  refine jTot.of_J [some (.int x0)] moX7_turns (Nat.le_of_ble_eq_true rfl) rfl ?_
  have hrx0 := j_rng x0
  have hjt := jtur_cases x0.toInt
  refine J_iload_n dX7_turns_0 rfl ?_
  refine Jz_if_ne (tgt := 9) jEq.rf dX7_turns_1 (by decide) (fun c1 => ?_) (fun c1 => ?_)
  · refine J_iload_n dX7_turns_9 rfl ?_
    refine Jz_iconst 1 dX7_turns_10 (by decide) (fun y10 he10 => ?_)
    refine Jz_icmp_ne (tgt := 19) jEq.rf he10 dX7_turns_11 (by decide) (fun c11 => ?_) (fun c11 => ?_)
    · refine J_iload_n dX7_turns_19 rfl ?_
      refine Jz_iconst 3 dX7_turns_20 (by decide) (fun y20 he20 => ?_)
      refine Jz_icmp_ne (tgt := 29) jEq.rf he20 dX7_turns_21 (by decide) (fun c21 => ?_) (fun c21 => ?_)
      · refine Jz_iconst 0 dX7_turns_29 (by decide) (fun y29 he29 => ?_)
        exact J_ret (r := some (.int _)) dX7_turns_30 ⟨rfl, _, rfl, rfl⟩ (⟨⟨_, rfl, (by (try simp only [he29.eq, true_and, and_true]) <;> omega), (by (try simp only [he29.eq, true_and, and_true]) <;> omega), (by (try simp only [he29.eq, true_and, and_true]) <;> omega)⟩, rfl⟩)
      · refine Jz_bipush 48 dX7_turns_24 (by decide) (fun y24 he24 => ?_)
        refine J_goto (tgt := 30) dX7_turns_26 (by decide) ?_
        exact J_ret (r := some (.int _)) dX7_turns_30 ⟨rfl, _, rfl, rfl⟩ (⟨⟨_, rfl, (by (try simp only [he24.eq, true_and, and_true]) <;> omega), (by (try simp only [he24.eq, true_and, and_true]) <;> omega), (by (try simp only [he24.eq, true_and, and_true]) <;> omega)⟩, rfl⟩)
    · refine Jz_bipush 12 dX7_turns_14 (by decide) (fun y14 he14 => ?_)
      refine J_goto (tgt := 30) dX7_turns_16 (by decide) ?_
      exact J_ret (r := some (.int _)) dX7_turns_30 ⟨rfl, _, rfl, rfl⟩ (⟨⟨_, rfl, (by (try simp only [he14.eq, true_and, and_true]) <;> omega), (by (try simp only [he14.eq, true_and, and_true]) <;> omega), (by (try simp only [he14.eq, true_and, and_true]) <;> omega)⟩, rfl⟩)
  · refine Jz_bipush 8 dX7_turns_4 (by decide) (fun y4 he4 => ?_)
    refine J_goto (tgt := 30) dX7_turns_6 (by decide) ?_
    exact J_ret (r := some (.int _)) dX7_turns_30 ⟨rfl, _, rfl, rfl⟩ (⟨⟨_, rfl, (by (try simp only [he4.eq, true_and, and_true]) <;> omega), (by (try simp only [he4.eq, true_and, and_true]) <;> omega), (by (try simp only [he4.eq, true_and, and_true]) <;> omega)⟩, rfl⟩)
set_option maxRecDepth 100000 in
set_option maxHeartbeats 8000000 in
theorem w_X7_hole_out {tS : jTS} (d : Nat) (V0 : jH) (a0 : Nat) (x1 : Int32) (x2 : Int32) (x3 : Int32) (wd : Int32) (hg : Int32) (rh : Nat) (H43 : Nat → Int32) (hd : 1 ≤ d) (hW : WT V0) (ha0 : jis V0 (.inr 5) a0) (hl3 : 0 ≤ x3.toInt) (hh3 : x3.toInt ≤ 1) (hf_wd : jfI V0 a0 5 23 wd) (hf_hg : jfI V0 a0 5 24 hg) (hr_rh : jfR V0 a0 5 25 rh) (ha_H43 : V0 rh = some (.inl (43, 36, .inl H43))) (hp0 : 2 ≤ wd.toInt) (hp1 : 2 ≤ hg.toInt) (hp2 : ¬ (0 ≤ x1.toInt ∧ x1.toInt < wd.toInt ∧ 0 ≤ x2.toInt ∧ x2.toInt < hg.toInt)) : jTot tS mX7_hole d [.ref a0, .int x1, .int x2, .int x3] V0 0 0 (fun r V => (fun r _ => ∃ y : Int32, r = some (.int y) ∧ ((-2147483648) ≤ y.toInt) ∧ (y.toInt ≤ 2147483647) ∧ (y.toInt = -2)) r V ∧ V = V0) := by
  refine jTot.of_J [some (.ref a0), some (.int x1), some (.int x2), some (.int x3), none] moX7_hole (Nat.le_of_ble_eq_true rfl) rfl ?_
  have hrx1 := j_rng x1
  have hrx2 := j_rng x2
  have he : jeff [] V0 V0 := jeff.refl _ _
  obtain ⟨fs_a0, hO_a0, hK_a0⟩ := WT_obj hW id ha0
  have hF_wd := hf_wd.get hO_a0
  have hrwd : 2 ≤ wd.toInt ∧ wd.toInt ≤ 6 := jok_rngI hK_a0 rfl hF_wd
  have hF_hg := hf_hg.get hO_a0
  have hrhg : 2 ≤ hg.toInt ∧ hg.toInt ≤ 6 := jok_rngI hK_a0 rfl hF_hg
  have hF_rh := hr_rh.get hO_a0
  obtain ⟨w_rh, hFq_rh, b_rh, hbq_rh, hb_rh⟩ := hK_a0.2 25 (.inr (some (.inl 43))) rfl
  cases hF_rh.symm.trans (hFq_rh.trans (congrArg some hbq_rh))
  obtain ⟨hN_H43, hv_H43⟩ := WT_rngI (r := (0, 1)) hW id rfl ha_H43
  clear hN_H43
  refine J_iload_n dX7_hole_0 rfl ?_
  refine Jz_iconst 0 dX7_hole_1 (by decide) (fun y1 he1 => ?_)
  refine J_aload_n dX7_hole_2 rfl ?_
  refine J_get jf_X7_73 dX7_hole_3 hO_a0 hF_wd ?_
  refine Jz_iconst 1 dX7_hole_6 (by decide) (fun y6 he6 => ?_)
  refine Jz_isub jEq.rf he6 dX7_hole_7 (by omega) (by omega) (fun y7 he7 => ?_)
  refine J_callS3 moX7_in jw_ml_X7_105 jw_st_X7_in dX7_hole_8 (w_X7_in (d - 1) _ x1 y1 y7 (by omega)   ) (by omega) (Nat.zero_le _) (Nat.zero_le _) (Nat.le_of_ble_eq_true rfl) (fun r8 V8 h8 => ?_)
  obtain ⟨⟨y8, rfl, hl8, hh8, hI8_0, hI8_1⟩, hE8⟩ := h8
  have hE8 := hE8.symm
  subst hE8
  refine Jz_if_eq (tgt := 28) jEq.rf dX7_hole_11 (by decide) (fun c11 => ?_) (fun c11 => ?_)
  · have q11_1 := hI8_1.of (by omega)
    try simp only [he1.eq, he7.eq] at q11_1
    refine Jz_bipush (-2) dX7_hole_28 (by decide) (fun y28 he28 => ?_)
    exact J_ret (r := some (.int _)) dX7_hole_30 ⟨rfl, _, rfl, rfl⟩ (⟨⟨_, rfl, (j_rng _).1, (j_rng _).2, (by (try simp only [he28.eq, true_and, and_true]) <;> omega)⟩, rfl⟩)
  · have q11_0 := hI8_0.of (by omega)
    try simp only [he1.eq, he7.eq] at q11_0
    refine J_iload_n dX7_hole_14 rfl ?_
    refine Jz_iconst 0 dX7_hole_15 (by decide) (fun y15 he15 => ?_)
    refine J_aload_n dX7_hole_16 rfl ?_
    refine J_get jf_X7_77 dX7_hole_17 hO_a0 hF_hg ?_
    refine Jz_iconst 1 dX7_hole_20 (by decide) (fun y20 he20 => ?_)
    refine Jz_isub jEq.rf he20 dX7_hole_21 (by omega) (by omega) (fun y21 he21 => ?_)
    refine J_callS3 moX7_in jw_ml_X7_105 jw_st_X7_in dX7_hole_22 (w_X7_in (d - 1) _ x2 y15 y21 (by omega)   ) (by omega) (Nat.zero_le _) (Nat.zero_le _) (Nat.le_of_ble_eq_true rfl) (fun r22 V22 h22 => ?_)
    obtain ⟨⟨y22, rfl, hl22, hh22, hI22_0, hI22_1⟩, hE22⟩ := h22
    have hE22 := hE22.symm
    subst hE22
    refine Jz_if_ne (tgt := 31) jEq.rf dX7_hole_25 (by decide) (fun c25 => ?_) (fun c25 => ?_)
    · have q25_0 := hI22_0.of (by omega)
      try simp only [he15.eq, he21.eq] at q25_0
      exact False.elim (by omega)
    · have q25_1 := hI22_1.of (by omega)
      try simp only [he15.eq, he21.eq] at q25_1
      refine Jz_bipush (-2) dX7_hole_28 (by decide) (fun y28 he28 => ?_)
      exact J_ret (r := some (.int _)) dX7_hole_30 ⟨rfl, _, rfl, rfl⟩ (⟨⟨_, rfl, (j_rng _).1, (j_rng _).2, (by (try simp only [he28.eq, true_and, and_true]) <;> omega)⟩, rfl⟩)
set_option maxRecDepth 100000 in
set_option maxHeartbeats 8000000 in
theorem w_X7_hole_same {tS : jTS} (d : Nat) (V0 : jH) (a0 : Nat) (x1 : Int32) (x2 : Int32) (x3 : Int32) (wd : Int32) (hg : Int32) (rh : Nat) (H43 : Nat → Int32) (hd : 1 ≤ d) (hW : WT V0) (ha0 : jis V0 (.inr 5) a0) (hl3 : 0 ≤ x3.toInt) (hh3 : x3.toInt ≤ 1) (hf_wd : jfI V0 a0 5 23 wd) (hf_hg : jfI V0 a0 5 24 hg) (hr_rh : jfR V0 a0 5 25 rh) (ha_H43 : V0 rh = some (.inl (43, 36, .inl H43))) (hp0 : 2 ≤ wd.toInt) (hp1 : 2 ≤ hg.toInt) (hp2 : 0 ≤ x1.toInt ∧ x1.toInt < wd.toInt ∧ 0 ≤ x2.toInt ∧ x2.toInt < hg.toInt) (hp3 : (H43 (x1.toInt + wd.toInt * x2.toInt).toNat).toInt = x3.toInt ∨ (x1.toInt = 0 ∧ x2.toInt = 0 ∨ x1.toInt = wd.toInt - 1 ∧ x2.toInt = hg.toInt - 1)) : jTot tS mX7_hole d [.ref a0, .int x1, .int x2, .int x3] V0 0 0 (fun r V => (fun r _ => ∃ y : Int32, r = some (.int y) ∧ ((-2147483648) ≤ y.toInt) ∧ (y.toInt ≤ 2147483647) ∧ (y.toInt = -3)) r V ∧ V = V0) := by
  refine jTot.of_J [some (.ref a0), some (.int x1), some (.int x2), some (.int x3), none] moX7_hole (Nat.le_of_ble_eq_true rfl) rfl ?_
  have hrx1 := j_rng x1
  have hrx2 := j_rng x2
  have he : jeff [] V0 V0 := jeff.refl _ _
  obtain ⟨fs_a0, hO_a0, hK_a0⟩ := WT_obj hW id ha0
  have hF_wd := hf_wd.get hO_a0
  have hrwd : 2 ≤ wd.toInt ∧ wd.toInt ≤ 6 := jok_rngI hK_a0 rfl hF_wd
  have hF_hg := hf_hg.get hO_a0
  have hrhg : 2 ≤ hg.toInt ∧ hg.toInt ≤ 6 := jok_rngI hK_a0 rfl hF_hg
  have hF_rh := hr_rh.get hO_a0
  obtain ⟨w_rh, hFq_rh, b_rh, hbq_rh, hb_rh⟩ := hK_a0.2 25 (.inr (some (.inl 43))) rfl
  cases hF_rh.symm.trans (hFq_rh.trans (congrArg some hbq_rh))
  obtain ⟨hN_H43, hv_H43⟩ := WT_rngI (r := (0, 1)) hW id rfl ha_H43
  clear hN_H43
  refine J_iload_n dX7_hole_0 rfl ?_
  refine Jz_iconst 0 dX7_hole_1 (by decide) (fun y1 he1 => ?_)
  refine J_aload_n dX7_hole_2 rfl ?_
  refine J_get jf_X7_73 dX7_hole_3 hO_a0 hF_wd ?_
  refine Jz_iconst 1 dX7_hole_6 (by decide) (fun y6 he6 => ?_)
  refine Jz_isub jEq.rf he6 dX7_hole_7 (by omega) (by omega) (fun y7 he7 => ?_)
  refine J_callS3 moX7_in jw_ml_X7_105 jw_st_X7_in dX7_hole_8 (w_X7_in (d - 1) _ x1 y1 y7 (by omega)   ) (by omega) (Nat.zero_le _) (Nat.zero_le _) (Nat.le_of_ble_eq_true rfl) (fun r8 V8 h8 => ?_)
  obtain ⟨⟨y8, rfl, hl8, hh8, hI8_0, hI8_1⟩, hE8⟩ := h8
  have hE8 := hE8.symm
  subst hE8
  refine Jz_if_eq (tgt := 28) jEq.rf dX7_hole_11 (by decide) (fun c11 => ?_) (fun c11 => ?_)
  · have q11_1 := hI8_1.of (by omega)
    try simp only [he1.eq, he7.eq] at q11_1
    exact False.elim (by omega)
  · have q11_0 := hI8_0.of (by omega)
    try simp only [he1.eq, he7.eq] at q11_0
    refine J_iload_n dX7_hole_14 rfl ?_
    refine Jz_iconst 0 dX7_hole_15 (by decide) (fun y15 he15 => ?_)
    refine J_aload_n dX7_hole_16 rfl ?_
    refine J_get jf_X7_77 dX7_hole_17 hO_a0 hF_hg ?_
    refine Jz_iconst 1 dX7_hole_20 (by decide) (fun y20 he20 => ?_)
    refine Jz_isub jEq.rf he20 dX7_hole_21 (by omega) (by omega) (fun y21 he21 => ?_)
    refine J_callS3 moX7_in jw_ml_X7_105 jw_st_X7_in dX7_hole_22 (w_X7_in (d - 1) _ x2 y15 y21 (by omega)   ) (by omega) (Nat.zero_le _) (Nat.zero_le _) (Nat.le_of_ble_eq_true rfl) (fun r22 V22 h22 => ?_)
    obtain ⟨⟨y22, rfl, hl22, hh22, hI22_0, hI22_1⟩, hE22⟩ := h22
    have hE22 := hE22.symm
    subst hE22
    refine Jz_if_ne (tgt := 31) jEq.rf dX7_hole_25 (by decide) (fun c25 => ?_) (fun c25 => ?_)
    · have q25_0 := hI22_0.of (by omega)
      try simp only [he15.eq, he21.eq] at q25_0
      refine J_iload_n dX7_hole_31 rfl ?_
      refine J_aload_n dX7_hole_32 rfl ?_
      refine J_get jf_X7_73 dX7_hole_33 hO_a0 hF_wd ?_
      refine J_iload_n dX7_hole_36 rfl ?_
      have hm0 := Int.mul_nonneg (show 0 ≤ wd.toInt by omega) (show 0 ≤ x2.toInt by omega)
      have hm1 := Int.mul_le_mul_of_nonneg_left (show x2.toInt ≤ 5 by omega) (show 0 ≤ wd.toInt by omega)
      have hz0 := jcell_zero (x := x1.toInt) (y := x2.toInt) (w := wd.toInt) (by omega) (by omega) (by omega)
      have hzl := jcell_last (x := x1.toInt) (y := x2.toInt) (w := wd.toInt) (h := hg.toInt) (by omega) (by omega) (by omega) (by omega)
      have hm2 := Int.mul_nonneg (show 0 ≤ wd.toInt by omega) (show 0 ≤ hg.toInt by omega)
      have hm3 := Int.mul_le_mul_of_nonneg_left (show hg.toInt ≤ 6 by omega) (show 0 ≤ wd.toInt by omega)
      refine Jz_imul jEq.rf jEq.rf dX7_hole_37 (by omega) (by omega) (fun y37 he37 => ?_)
      refine Jz_iadd jEq.rf he37 dX7_hole_38 (by omega) (by omega) (fun y38 he38 => ?_)
      refine J_istore dX7_hole_39 rfl (by decide) ?_
      refine J_aload_n dX7_hole_41 rfl ?_
      refine J_get jf_X7_80 dX7_hole_42 hO_a0 hF_rh ?_
      refine J_iload dX7_hole_45 rfl ?_
      refine Jz_zald (r := (0, 1)) he38 dX7_hole_47 ha_H43 rfl hv_H43 (by omega) (by omega) (fun y47 hf47 hl47 hh47 => ?_)
      dsimp only at hl47 hh47
      refine J_iload_n dX7_hole_48 rfl ?_
      refine Jz_icmp_eq (tgt := 73) jEq.rf jEq.rf dX7_hole_49 (by decide) (fun c49 => ?_) (fun c49 => ?_)
      · refine Jz_bipush (-3) dX7_hole_73 (by decide) (fun y73 he73 => ?_)
        exact J_ret (r := some (.int _)) dX7_hole_75 ⟨rfl, _, rfl, rfl⟩ (⟨⟨_, rfl, (j_rng _).1, (j_rng _).2, (by (try simp only [he73.eq, true_and, and_true]) <;> omega)⟩, rfl⟩)
      · refine J_iload dX7_hole_52 rfl ?_
        refine Jz_if_eq (tgt := 73) he38 dX7_hole_54 (by decide) (fun c54 => ?_) (fun c54 => ?_)
        · refine Jz_bipush (-3) dX7_hole_73 (by decide) (fun y73 he73 => ?_)
          exact J_ret (r := some (.int _)) dX7_hole_75 ⟨rfl, _, rfl, rfl⟩ (⟨⟨_, rfl, (j_rng _).1, (j_rng _).2, (by (try simp only [he73.eq, true_and, and_true]) <;> omega)⟩, rfl⟩)
        · refine J_iload dX7_hole_57 rfl ?_
          refine J_aload_n dX7_hole_59 rfl ?_
          refine J_get jf_X7_73 dX7_hole_60 hO_a0 hF_wd ?_
          refine J_aload_n dX7_hole_63 rfl ?_
          refine J_get jf_X7_77 dX7_hole_64 hO_a0 hF_hg ?_
          refine Jz_imul jEq.rf jEq.rf dX7_hole_67 (by omega) (by omega) (fun y67 he67 => ?_)
          refine Jz_iconst 1 dX7_hole_68 (by decide) (fun y68 he68 => ?_)
          refine Jz_isub he67 he68 dX7_hole_69 (by omega) (by omega) (fun y69 he69 => ?_)
          refine Jz_icmp_ne (tgt := 76) he38 he69 dX7_hole_70 (by decide) (fun c70 => ?_) (fun c70 => ?_)
          · exact False.elim (by rw [hf47] at hp3; omega)
          · refine Jz_bipush (-3) dX7_hole_73 (by decide) (fun y73 he73 => ?_)
            exact J_ret (r := some (.int _)) dX7_hole_75 ⟨rfl, _, rfl, rfl⟩ (⟨⟨_, rfl, (j_rng _).1, (j_rng _).2, (by (try simp only [he73.eq, true_and, and_true]) <;> omega)⟩, rfl⟩)
    · have q25_1 := hI22_1.of (by omega)
      try simp only [he15.eq, he21.eq] at q25_1
      exact False.elim (by omega)
set_option maxRecDepth 100000 in
set_option maxHeartbeats 8000000 in
theorem w_X7_hole_turn {tS : jTS} (d : Nat) (V0 : jH) (a0 : Nat) (x1 : Int32) (x2 : Int32) (x3 : Int32) (wd : Int32) (hg : Int32) (rh : Nat) (H43 : Nat → Int32) (hd : 1 ≤ d) (hW : WT V0) (ha0 : jis V0 (.inr 5) a0) (hl3 : 0 ≤ x3.toInt) (hh3 : x3.toInt ≤ 1) (hf_wd : jfI V0 a0 5 23 wd) (hf_hg : jfI V0 a0 5 24 hg) (hr_rh : jfR V0 a0 5 25 rh) (ha_H43 : V0 rh = some (.inl (43, 36, .inl H43))) (hp0 : 2 ≤ wd.toInt) (hp1 : 2 ≤ hg.toInt) (hp2 : 0 ≤ x1.toInt ∧ x1.toInt < wd.toInt ∧ 0 ≤ x2.toInt ∧ x2.toInt < hg.toInt) (hp3 : ¬ (H43 (x1.toInt + wd.toInt * x2.toInt).toNat).toInt = x3.toInt) (hp4 : ¬ (x1.toInt = 0 ∧ x2.toInt = 0 ∨ x1.toInt = wd.toInt - 1 ∧ x2.toInt = hg.toInt - 1)) : jTot tS mX7_hole d [.ref a0, .int x1, .int x2, .int x3] V0 0 0 (fun r V => (jPost [.inr 5, .inl 43] V0 (fun r _ => ∃ y : Int32, r = some (.int y) ∧ ((-2147483648) ≤ y.toInt) ∧ (y.toInt ≤ 2147483647) ∧ (y.toInt = 1))) r V ∧ (∃ G : Nat → Int32, V rh = some (.inl (43, 36, .inl G)) ∧ G (x1.toInt + wd.toInt * x2.toInt).toNat = x3 ∧ ∀ j : Nat, j ≠ (x1.toInt + wd.toInt * x2.toInt).toNat → G j = H43 j) ∧ jkc 5 [0, 23, 24] V0 V ∧ (∃ c26 : Int32, jfI V a0 5 26 c26 ∧ (c26.toInt = 0))) := by
  refine jTot.of_J [some (.ref a0), some (.int x1), some (.int x2), some (.int x3), none] moX7_hole (Nat.le_of_ble_eq_true rfl) rfl ?_
  have hrx1 := j_rng x1
  have hrx2 := j_rng x2
  have he : jeff [.inr 5, .inl 43] V0 V0 := jeff.refl _ _
  have hkp : jkc 5 [0, 23, 24] V0 V0 := jkc.rf
  obtain ⟨fs_a0, hO_a0, hK_a0⟩ := WT_obj hW id ha0
  have hF_wd := hf_wd.get hO_a0
  have hrwd : 2 ≤ wd.toInt ∧ wd.toInt ≤ 6 := jok_rngI hK_a0 rfl hF_wd
  have hF_hg := hf_hg.get hO_a0
  have hrhg : 2 ≤ hg.toInt ∧ hg.toInt ≤ 6 := jok_rngI hK_a0 rfl hF_hg
  have hF_rh := hr_rh.get hO_a0
  obtain ⟨w_rh, hFq_rh, b_rh, hbq_rh, hb_rh⟩ := hK_a0.2 25 (.inr (some (.inl 43))) rfl
  cases hF_rh.symm.trans (hFq_rh.trans (congrArg some hbq_rh))
  obtain ⟨hN_H43, hv_H43⟩ := WT_rngI (r := (0, 1)) hW id rfl ha_H43
  clear hN_H43
  refine J_iload_n dX7_hole_0 rfl ?_
  refine Jz_iconst 0 dX7_hole_1 (by decide) (fun y1 he1 => ?_)
  refine J_aload_n dX7_hole_2 rfl ?_
  refine J_get jf_X7_73 dX7_hole_3 hO_a0 hF_wd ?_
  refine Jz_iconst 1 dX7_hole_6 (by decide) (fun y6 he6 => ?_)
  refine Jz_isub jEq.rf he6 dX7_hole_7 (by omega) (by omega) (fun y7 he7 => ?_)
  refine J_callS3 moX7_in jw_ml_X7_105 jw_st_X7_in dX7_hole_8 (w_X7_in (d - 1) _ x1 y1 y7 (by omega)   ) (by omega) (Nat.zero_le _) (Nat.zero_le _) (Nat.le_of_ble_eq_true rfl) (fun r8 V8 h8 => ?_)
  obtain ⟨⟨y8, rfl, hl8, hh8, hI8_0, hI8_1⟩, hE8⟩ := h8
  have hE8 := hE8.symm
  subst hE8
  refine Jz_if_eq (tgt := 28) jEq.rf dX7_hole_11 (by decide) (fun c11 => ?_) (fun c11 => ?_)
  · have q11_1 := hI8_1.of (by omega)
    try simp only [he1.eq, he7.eq] at q11_1
    exact False.elim (by omega)
  · have q11_0 := hI8_0.of (by omega)
    try simp only [he1.eq, he7.eq] at q11_0
    refine J_iload_n dX7_hole_14 rfl ?_
    refine Jz_iconst 0 dX7_hole_15 (by decide) (fun y15 he15 => ?_)
    refine J_aload_n dX7_hole_16 rfl ?_
    refine J_get jf_X7_77 dX7_hole_17 hO_a0 hF_hg ?_
    refine Jz_iconst 1 dX7_hole_20 (by decide) (fun y20 he20 => ?_)
    refine Jz_isub jEq.rf he20 dX7_hole_21 (by omega) (by omega) (fun y21 he21 => ?_)
    refine J_callS3 moX7_in jw_ml_X7_105 jw_st_X7_in dX7_hole_22 (w_X7_in (d - 1) _ x2 y15 y21 (by omega)   ) (by omega) (Nat.zero_le _) (Nat.zero_le _) (Nat.le_of_ble_eq_true rfl) (fun r22 V22 h22 => ?_)
    obtain ⟨⟨y22, rfl, hl22, hh22, hI22_0, hI22_1⟩, hE22⟩ := h22
    have hE22 := hE22.symm
    subst hE22
    refine Jz_if_ne (tgt := 31) jEq.rf dX7_hole_25 (by decide) (fun c25 => ?_) (fun c25 => ?_)
    · have q25_0 := hI22_0.of (by omega)
      try simp only [he15.eq, he21.eq] at q25_0
      refine J_iload_n dX7_hole_31 rfl ?_
      refine J_aload_n dX7_hole_32 rfl ?_
      refine J_get jf_X7_73 dX7_hole_33 hO_a0 hF_wd ?_
      refine J_iload_n dX7_hole_36 rfl ?_
      have hm0 := Int.mul_nonneg (show 0 ≤ wd.toInt by omega) (show 0 ≤ x2.toInt by omega)
      have hm1 := Int.mul_le_mul_of_nonneg_left (show x2.toInt ≤ 5 by omega) (show 0 ≤ wd.toInt by omega)
      have hz0 := jcell_zero (x := x1.toInt) (y := x2.toInt) (w := wd.toInt) (by omega) (by omega) (by omega)
      have hzl := jcell_last (x := x1.toInt) (y := x2.toInt) (w := wd.toInt) (h := hg.toInt) (by omega) (by omega) (by omega) (by omega)
      have hm2 := Int.mul_nonneg (show 0 ≤ wd.toInt by omega) (show 0 ≤ hg.toInt by omega)
      have hm3 := Int.mul_le_mul_of_nonneg_left (show hg.toInt ≤ 6 by omega) (show 0 ≤ wd.toInt by omega)
      refine Jz_imul jEq.rf jEq.rf dX7_hole_37 (by omega) (by omega) (fun y37 he37 => ?_)
      refine Jz_iadd jEq.rf he37 dX7_hole_38 (by omega) (by omega) (fun y38 he38 => ?_)
      refine J_istore dX7_hole_39 rfl (by decide) ?_
      refine J_aload_n dX7_hole_41 rfl ?_
      refine J_get jf_X7_80 dX7_hole_42 hO_a0 hF_rh ?_
      refine J_iload dX7_hole_45 rfl ?_
      refine Jz_zald (r := (0, 1)) he38 dX7_hole_47 ha_H43 rfl hv_H43 (by omega) (by omega) (fun y47 hf47 hl47 hh47 => ?_)
      dsimp only at hl47 hh47
      refine J_iload_n dX7_hole_48 rfl ?_
      refine Jz_icmp_eq (tgt := 73) jEq.rf jEq.rf dX7_hole_49 (by decide) (fun c49 => ?_) (fun c49 => ?_)
      · exact False.elim (by rw [hf47] at hp3; omega)
      · refine J_iload dX7_hole_52 rfl ?_
        refine Jz_if_eq (tgt := 73) he38 dX7_hole_54 (by decide) (fun c54 => ?_) (fun c54 => ?_)
        · exact False.elim (by rw [hf47] at hp3; omega)
        · refine J_iload dX7_hole_57 rfl ?_
          refine J_aload_n dX7_hole_59 rfl ?_
          refine J_get jf_X7_73 dX7_hole_60 hO_a0 hF_wd ?_
          refine J_aload_n dX7_hole_63 rfl ?_
          refine J_get jf_X7_77 dX7_hole_64 hO_a0 hF_hg ?_
          refine Jz_imul jEq.rf jEq.rf dX7_hole_67 (by omega) (by omega) (fun y67 he67 => ?_)
          refine Jz_iconst 1 dX7_hole_68 (by decide) (fun y68 he68 => ?_)
          refine Jz_isub he67 he68 dX7_hole_69 (by omega) (by omega) (fun y69 he69 => ?_)
          refine Jz_icmp_ne (tgt := 76) he38 he69 dX7_hole_70 (by decide) (fun c70 => ?_) (fun c70 => ?_)
          · refine J_aload_n dX7_hole_76 rfl ?_
            refine J_get jf_X7_80 dX7_hole_77 hO_a0 hF_rh ?_
            refine J_iload dX7_hole_80 rfl ?_
            refine J_iload_n dX7_hole_82 rfl ?_
            refine Jz_zast (r := (0, 1)) he38 jEq.rf hW id dX7_hole_83 ha_H43 rfl rfl (by omega) (by omega) (by omega) (by omega) (fun _ h => vp_nar_b (by omega) (by omega)) (fun V83 G83 hW hx83 hA83 hp83 ho83 => ?_)
            obtain ⟨hN83, hv83⟩ := WT_rngI (r := (0, 1)) hW id rfl hA83
            clear hN83
            have he := he.trans (hx83.sub (jsub_of rfl))
            have hkp := hkp.trans (jkc.of hx83 (jnot_of rfl))
            have ha0 := ha0.mono hx83.1
            have hb_rh := hb_rh.mono hx83.1
            have hO_a0 := hx83.2 _ _ hO_a0 (jnot_of rfl)
            have hK_a0 := hK_a0.mono hx83.1
            refine J_aload_n dX7_hole_84 rfl ?_
            refine Jz_iconst 0 dX7_hole_85 (by decide) (fun y85 he85 => ?_)
            refine Jz_putI hO_a0 hW id rfl jf_X7_214 jt_X7_26 he85 dX7_hole_86 (by omega) (by omega) (fun _ h => ⟨nar_b (by omega) (by omega), fit_b (by omega) (by omega)⟩) (fun V86 fs86 hW hx86 hO86 hS86 hT86 hB86 => ?_)
            have hK86 : jokO _ (jFs 5) fs86 := hW _ _ id hO86
            have hF86_23 := (hT86 23 (by decide)).trans hF_wd
            have hF86_24 := (hT86 24 (by decide)).trans hF_hg
            have hF86_25 := (hT86 25 (by decide)).trans hF_rh
            have he := he.trans (hx86.sub (jsub_of rfl))
            have hkp := hkp.trans (jkc.put hO_a0 hO86 hT86 hB86 (by decide))
            have ha0 := ha0.mono hx86.1
            have hb_rh := hb_rh.mono hx86.1
            have hA83 := hx86.2 _ _ hA83 (jnot_of rfl)
            refine Jz_iconst 1 dX7_hole_89 (by decide) (fun y89 he89 => ?_)
            exact J_ret (r := some (.int _)) dX7_hole_90 ⟨rfl, _, rfl, rfl⟩ (⟨⟨hW, he, ⟨_, rfl, (j_rng _).1, (j_rng _).2, (by (try simp only [he89.eq, true_and, and_true]) <;> omega)⟩⟩, ⟨G83, hA83, hp83, ho83⟩, hkp, ⟨_, ⟨_, hO86, hS86⟩, (by (try simp only [he85.eq, true_and, and_true]) <;> omega)⟩⟩)
          · exact False.elim (by rw [hf47] at hp3; omega)
    · have q25_1 := hI22_1.of (by omega)
      try simp only [he15.eq, he21.eq] at q25_1
      exact False.elim (by omega)
set_option maxRecDepth 100000 in
set_option maxHeartbeats 8000000 in
theorem w_X7_board_no {tS : jTS} (d : Nat) (V0 : jH) (a0 : Nat) (x1 : Int32) (x2 : Int32) (hd : 1 ≤ d) (hW : WT V0) (ha0 : jis V0 (.inr 5) a0) (hp0 : ¬ (2 ≤ x1.toInt ∧ x1.toInt ≤ 6 ∧ 2 ≤ x2.toInt ∧ x2.toInt ≤ 6)) : jTot tS mX7_board d [.ref a0, .int x1, .int x2] V0 0 0 (fun r V => (fun r _ => ∃ y : Int32, r = some (.int y) ∧ ((-2147483648) ≤ y.toInt) ∧ (y.toInt ≤ 2147483647) ∧ (y.toInt = -2)) r V ∧ V = V0) := by
  refine jTot.of_J [some (.ref a0), some (.int x1), some (.int x2), none] moX7_board (Nat.le_of_ble_eq_true rfl) rfl ?_
  have hrx1 := j_rng x1
  have hrx2 := j_rng x2
  have he : jeff [] V0 V0 := jeff.refl _ _
  refine J_iload_n dX7_board_0 rfl ?_
  refine Jz_iconst 2 dX7_board_1 (by decide) (fun y1 he1 => ?_)
  refine Jz_bipush 6 dX7_board_2 (by decide) (fun y2 he2 => ?_)
  refine J_callS3 moX7_in jw_ml_X7_105 jw_st_X7_in dX7_board_4 (w_X7_in (d - 1) _ x1 y1 y2 (by omega)   ) (by omega) (Nat.zero_le _) (Nat.zero_le _) (Nat.le_of_ble_eq_true rfl) (fun r4 V4 h4 => ?_)
  obtain ⟨⟨y4, rfl, hl4, hh4, hI4_0, hI4_1⟩, hE4⟩ := h4
  have hE4 := hE4.symm
  subst hE4
  refine Jz_if_eq (tgt := 20) jEq.rf dX7_board_7 (by decide) (fun c7 => ?_) (fun c7 => ?_)
  · have q7_1 := hI4_1.of (by omega)
    try simp only [he1.eq, he2.eq] at q7_1
    refine Jz_bipush (-2) dX7_board_20 (by decide) (fun y20 he20 => ?_)
    exact J_ret (r := some (.int _)) dX7_board_22 ⟨rfl, _, rfl, rfl⟩ (⟨⟨_, rfl, (j_rng _).1, (j_rng _).2, (by (try simp only [he20.eq, true_and, and_true]) <;> omega)⟩, rfl⟩)
  · have q7_0 := hI4_0.of (by omega)
    try simp only [he1.eq, he2.eq] at q7_0
    refine J_iload_n dX7_board_10 rfl ?_
    refine Jz_iconst 2 dX7_board_11 (by decide) (fun y11 he11 => ?_)
    refine Jz_bipush 6 dX7_board_12 (by decide) (fun y12 he12 => ?_)
    refine J_callS3 moX7_in jw_ml_X7_105 jw_st_X7_in dX7_board_14 (w_X7_in (d - 1) _ x2 y11 y12 (by omega)   ) (by omega) (Nat.zero_le _) (Nat.zero_le _) (Nat.le_of_ble_eq_true rfl) (fun r14 V14 h14 => ?_)
    obtain ⟨⟨y14, rfl, hl14, hh14, hI14_0, hI14_1⟩, hE14⟩ := h14
    have hE14 := hE14.symm
    subst hE14
    refine Jz_if_ne (tgt := 23) jEq.rf dX7_board_17 (by decide) (fun c17 => ?_) (fun c17 => ?_)
    · have q17_0 := hI14_0.of (by omega)
      try simp only [he11.eq, he12.eq] at q17_0
      exact False.elim (by omega)
    · have q17_1 := hI14_1.of (by omega)
      try simp only [he11.eq, he12.eq] at q17_1
      refine Jz_bipush (-2) dX7_board_20 (by decide) (fun y20 he20 => ?_)
      exact J_ret (r := some (.int _)) dX7_board_22 ⟨rfl, _, rfl, rfl⟩ (⟨⟨_, rfl, (j_rng _).1, (j_rng _).2, (by (try simp only [he20.eq, true_and, and_true]) <;> omega)⟩, rfl⟩)
set_option maxRecDepth 100000 in
set_option maxHeartbeats 8000000 in
theorem w_X7_board_yes {tS : jTS} (d : Nat) (V0 : jH) (a0 : Nat) (x1 : Int32) (x2 : Int32) (rh : Nat) (hd : 1 ≤ d) (hW : WT V0) (ha0 : jis V0 (.inr 5) a0) (hr_rh : jfR V0 a0 5 25 rh) (hp0 : 2 ≤ x1.toInt ∧ x1.toInt ≤ 6 ∧ 2 ≤ x2.toInt ∧ x2.toInt ≤ 6) : jTot tS mX7_board d [.ref a0, .int x1, .int x2] V0 0 0 (fun r V => (jPost [.inr 5, .inl 43] V0 (fun r _ => ∃ y : Int32, r = some (.int y) ∧ ((-2147483648) ≤ y.toInt) ∧ (y.toInt ≤ 2147483647) ∧ (y.toInt = 1))) r V ∧ (∃ G : Nat → Int32, V rh = some (.inl (43, 36, .inl G)) ∧ ∀ j : Nat, j < 36 → (G j).toInt = 0) ∧ jkc 5 [0] V0 V ∧ (∃ w2 : Int32, jfI V a0 5 23 w2 ∧ (w2.toInt = x1.toInt)) ∧ (∃ h2 : Int32, jfI V a0 5 24 h2 ∧ (h2.toInt = x2.toInt)) ∧ (∃ c26 : Int32, jfI V a0 5 26 c26 ∧ (c26.toInt = 0))) := by
  refine jTot.of_J [some (.ref a0), some (.int x1), some (.int x2), none] moX7_board (Nat.le_of_ble_eq_true rfl) rfl ?_
  have hrx1 := j_rng x1
  have hrx2 := j_rng x2
  have he : jeff [.inr 5, .inl 43] V0 V0 := jeff.refl _ _
  have hkp : jkc 5 [0] V0 V0 := jkc.rf
  obtain ⟨fs_a0, hO_a0, hK_a0⟩ := WT_obj hW id ha0
  have hF_rh := hr_rh.get hO_a0
  obtain ⟨w_rh, hFq_rh, b_rh, hbq_rh, hb_rh⟩ := hK_a0.2 25 (.inr (some (.inl 43))) rfl
  cases hF_rh.symm.trans (hFq_rh.trans (congrArg some hbq_rh))
  refine J_iload_n dX7_board_0 rfl ?_
  refine Jz_iconst 2 dX7_board_1 (by decide) (fun y1 he1 => ?_)
  refine Jz_bipush 6 dX7_board_2 (by decide) (fun y2 he2 => ?_)
  refine J_callS3 moX7_in jw_ml_X7_105 jw_st_X7_in dX7_board_4 (w_X7_in (d - 1) _ x1 y1 y2 (by omega)   ) (by omega) (Nat.zero_le _) (Nat.zero_le _) (Nat.le_of_ble_eq_true rfl) (fun r4 V4 h4 => ?_)
  obtain ⟨⟨y4, rfl, hl4, hh4, hI4_0, hI4_1⟩, hE4⟩ := h4
  have hE4 := hE4.symm
  subst hE4
  refine Jz_if_eq (tgt := 20) jEq.rf dX7_board_7 (by decide) (fun c7 => ?_) (fun c7 => ?_)
  · have q7_1 := hI4_1.of (by omega)
    try simp only [he1.eq, he2.eq] at q7_1
    exact False.elim (by omega)
  · have q7_0 := hI4_0.of (by omega)
    try simp only [he1.eq, he2.eq] at q7_0
    refine J_iload_n dX7_board_10 rfl ?_
    refine Jz_iconst 2 dX7_board_11 (by decide) (fun y11 he11 => ?_)
    refine Jz_bipush 6 dX7_board_12 (by decide) (fun y12 he12 => ?_)
    refine J_callS3 moX7_in jw_ml_X7_105 jw_st_X7_in dX7_board_14 (w_X7_in (d - 1) _ x2 y11 y12 (by omega)   ) (by omega) (Nat.zero_le _) (Nat.zero_le _) (Nat.le_of_ble_eq_true rfl) (fun r14 V14 h14 => ?_)
    obtain ⟨⟨y14, rfl, hl14, hh14, hI14_0, hI14_1⟩, hE14⟩ := h14
    have hE14 := hE14.symm
    subst hE14
    refine Jz_if_ne (tgt := 23) jEq.rf dX7_board_17 (by decide) (fun c17 => ?_) (fun c17 => ?_)
    · have q17_0 := hI14_0.of (by omega)
      try simp only [he11.eq, he12.eq] at q17_0
      refine J_aload_n dX7_board_23 rfl ?_
      refine J_iload_n dX7_board_24 rfl ?_
      refine Jz_putI hO_a0 hW id rfl jf_X7_73 jt_X7_23 jEq.rf dX7_board_25 (by omega) (by omega) (fun _ _ => ⟨rfl, rfl⟩) (fun V25 fs25 hW hx25 hO25 hS25 hT25 hB25 => ?_)
      have hK25 : jokO _ (jFs 5) fs25 := hW _ _ id hO25
      have hF25_25 := (hT25 25 (by decide)).trans hF_rh
      have he := he.trans (hx25.sub (jsub_of rfl))
      have hkp := hkp.trans (jkc.put hO_a0 hO25 hT25 hB25 (by decide))
      have ha0 := ha0.mono hx25.1
      have hb_rh := hb_rh.mono hx25.1
      refine J_aload_n dX7_board_28 rfl ?_
      refine J_iload_n dX7_board_29 rfl ?_
      refine Jz_putI hO25 hW id rfl jf_X7_77 jt_X7_24 jEq.rf dX7_board_30 (by omega) (by omega) (fun _ _ => ⟨rfl, rfl⟩) (fun V30 fs30 hW hx30 hO30 hS30 hT30 hB30 => ?_)
      have hK30 : jokO _ (jFs 5) fs30 := hW _ _ id hO30
      have hF30_23 := (hT30 23 (by decide)).trans hS25
      have hF30_25 := (hT30 25 (by decide)).trans hF25_25
      have he := he.trans (hx30.sub (jsub_of rfl))
      have hkp := hkp.trans (jkc.put hO25 hO30 hT30 hB30 (by decide))
      have ha0 := ha0.mono hx30.1
      have hb_rh := hb_rh.mono hx30.1
      refine Jz_iconst 0 dX7_board_33 (by decide) (fun y33 he33 => ?_)
      refine J_istore_n dX7_board_34 rfl (by decide) ?_
      obtain ⟨n35trh, f35trh, hA35trh, hN35trh, hM35trh, hv35trh⟩ := WT_arrI (r := (0, 1)) hW id rfl hb_rh
      obtain rfl := hM35trh 36 rfl
      clear hN35trh hM35trh
      have L35 : ∀ (N : Nat) (V : jH) (i3n35 : Int32) (F43n35 : Nat → Int32), WT V → jeff [.inr 5, .inl 43] V0 V → (jis V (.inr 5) a0) → (jis V (.inl 43) rh) → (jkc 5 [0] V0 V) → (V a0 = some (.inr (5, fs30))) → (jokO V (jFs 5) fs30) → (V rh = some (.inl (43, 36, .inl F43n35))) → (0 ≤ i3n35.toInt) → (∀ j : Nat, (j : Int) < i3n35.toInt → (F43n35 j).toInt = 0) → (300 - i3n35.toInt).toNat < N → J tS mX7_board d 35 [some (.ref a0), some (.int x1), some (.int x2), some (.int i3n35)] [] V 0 0 (fun r V => (jPost [.inr 5, .inl 43] V0 (fun r _ => ∃ y : Int32, r = some (.int y) ∧ ((-2147483648) ≤ y.toInt) ∧ (y.toInt ≤ 2147483647) ∧ (y.toInt = 1))) r V ∧ (∃ G : Nat → Int32, V rh = some (.inl (43, 36, .inl G)) ∧ ∀ j : Nat, j < 36 → (G j).toInt = 0) ∧ jkc 5 [0] V0 V ∧ (∃ w2 : Int32, jfI V a0 5 23 w2 ∧ (w2.toInt = x1.toInt)) ∧ (∃ h2 : Int32, jfI V a0 5 24 h2 ∧ (h2.toInt = x2.toInt)) ∧ (∃ c26 : Int32, jfI V a0 5 26 c26 ∧ (c26.toInt = 0))) := by
        intro N
        induction N with
        | zero => intro V i3n35 F43n35 hW he ha0 hb_rh hkp hO30 hK30 hAF43n35 hi3 hz hm; exact absurd hm (Nat.not_lt_zero _)
        | succ N ih =>
          intro V i3n35 F43n35 hW he ha0 hb_rh hkp hO30 hK30 hAF43n35 hi3 hz hm
          have ih35 := ih
          have hri3 := j_rng i3n35
          obtain ⟨hNF43n35, hvF43n35⟩ := WT_rngI (r := (0, 1)) hW id rfl hAF43n35
          clear hNF43n35
          refine J_iload_n dX7_board_35 rfl ?_
          refine Jz_bipush 36 dX7_board_36 (by decide) (fun y36 he36 => ?_)
          refine Jz_icmp_ge (tgt := 54) jEq.rf he36 dX7_board_38 (by decide) (fun c38 => ?_) (fun c38 => ?_)
          · refine J_aload_n dX7_board_54 rfl ?_
            refine Jz_iconst 0 dX7_board_55 (by decide) (fun y55 he55 => ?_)
            refine Jz_putI hO30 hW id rfl jf_X7_214 jt_X7_26 he55 dX7_board_56 (by omega) (by omega) (fun _ h => ⟨nar_b (by omega) (by omega), fit_b (by omega) (by omega)⟩) (fun V56 fs56 hW hx56 hO56 hS56 hT56 hB56 => ?_)
            have hK56 : jokO _ (jFs 5) fs56 := hW _ _ id hO56
            have hF56_24 := (hT56 24 (by decide)).trans hS30
            have hF56_23 := (hT56 23 (by decide)).trans hF30_23
            have hF56_25 := (hT56 25 (by decide)).trans hF30_25
            have he := he.trans (hx56.sub (jsub_of rfl))
            have hkp := hkp.trans (jkc.put hO30 hO56 hT56 hB56 (by decide))
            have ha0 := ha0.mono hx56.1
            have hb_rh := hb_rh.mono hx56.1
            have hAF43n35 := hx56.2 _ _ hAF43n35 (jnot_of rfl)
            refine Jz_iconst 1 dX7_board_59 (by decide) (fun y59 he59 => ?_)
            exact J_ret (r := some (.int _)) dX7_board_60 ⟨rfl, _, rfl, rfl⟩ (⟨⟨hW, he, ⟨_, rfl, (j_rng _).1, (j_rng _).2, (by (try simp only [he59.eq, true_and, and_true]) <;> omega)⟩⟩, ⟨F43n35, hAF43n35, fun j hj => hz j (by omega)⟩, hkp, ⟨_, ⟨_, hO56, hF56_23⟩, (by omega)⟩, ⟨_, ⟨_, hO56, hF56_24⟩, (by omega)⟩, ⟨_, ⟨_, hO56, hS56⟩, (by (try simp only [he55.eq, true_and, and_true]) <;> omega)⟩⟩)
          · refine J_aload_n dX7_board_41 rfl ?_
            refine J_get jf_X7_80 dX7_board_42 hO30 hF30_25 ?_
            refine J_iload_n dX7_board_45 rfl ?_
            refine Jz_iconst 0 dX7_board_46 (by decide) (fun y46 he46 => ?_)
            refine Jz_zast (r := (0, 1)) jEq.rf he46 hW id dX7_board_47 hAF43n35 rfl rfl (by omega) (by omega) (by omega) (by omega) (fun _ h => vp_nar_b (by omega) (by omega)) (fun V47 G47 hW hx47 hA47 hp47 ho47 => ?_)
            obtain ⟨hN47, hv47⟩ := WT_rngI (r := (0, 1)) hW id rfl hA47
            clear hN47
            have he := he.trans (hx47.sub (jsub_of rfl))
            have hkp := hkp.trans (jkc.of hx47 (jnot_of rfl))
            have ha0 := ha0.mono hx47.1
            have hb_rh := hb_rh.mono hx47.1
            have hO30 := hx47.2 _ _ hO30 (jnot_of rfl)
            have hK30 := hK30.mono hx47.1
            refine Jz_iinc 1 dX7_board_48 rfl rfl (by decide) jEq.rf (by decide) (by omega) (by omega) (fun y48 he48 => ?_)
            refine J_goto (tgt := 35) dX7_board_51 (by decide) ?_
            refine J.mask [true, true, true, true] ?_
            exact ih35 _ y48 G47 hW he ha0 hb_rh hkp hO30 hK30 hA47 (by (try simp only [he48.eq, true_and, and_true]) <;> omega) (fun j hj => by rw [he48.eq] at hj; exact (Nat.decEq j i3n35.toInt.toNat).byCases (fun hq => by rw [hq, hp47, he46.eq]) (fun hq => by rw [ho47 j hq]; exact hz j (by omega))) (by (try simp only [he48.eq, true_and, and_true]) <;> omega)
      refine J.mask [true, true, true, true] ?_
      exact L35 _ _ y33 f35trh hW he ha0 hb_rh hkp hO30 hK30 hA35trh (by (try simp only [he33.eq, true_and, and_true]) <;> omega) (fun j hj => by rw [he33.eq] at hj; omega) (Nat.lt_succ_self _)
    · have q17_1 := hI14_1.of (by omega)
      try simp only [he11.eq, he12.eq] at q17_1
      exact False.elim (by omega)
set_option maxRecDepth 100000 in
set_option maxHeartbeats 8000000 in
theorem w_X7_open_z {tS : jTS} (d : Nat) (V0 : jH) (a0 : Nat) (wd : Int32) (hg : Int32) (rh : Nat) (H43 : Nat → Int32) (hd : 0 ≤ d) (hW : WT V0) (ha0 : jis V0 (.inr 5) a0) (hf_wd : jfI V0 a0 5 23 wd) (hf_hg : jfI V0 a0 5 24 hg) (hr_rh : jfR V0 a0 5 25 rh) (ha_H43 : V0 rh = some (.inl (43, 36, .inl H43))) (hp0 : 2 ≤ wd.toInt) (hp1 : wd.toInt ≤ 6) (hp2 : 2 ≤ hg.toInt) (hp3 : hg.toInt ≤ 6) : jTot tS mX7_open d [.ref a0] V0 0 0 (fun r V => (fun r _ => ∃ y : Int32, r = some (.int y) ∧ ((-2147483648) ≤ y.toInt) ∧ (y.toInt ≤ 2147483647) ∧ (y.toInt = ((jcn 1 H43 (wd.toInt * hg.toInt).toNat : Nat) : Int))) r V ∧ V = V0) := by
  refine jTot.of_J [some (.ref a0), none, none] moX7_open (Nat.le_of_ble_eq_true rfl) rfl ?_
  have he : jeff [] V0 V0 := jeff.refl _ _
  obtain ⟨fs_a0, hO_a0, hK_a0⟩ := WT_obj hW id ha0
  have hF_wd := hf_wd.get hO_a0
  have hrwd : 2 ≤ wd.toInt ∧ wd.toInt ≤ 6 := jok_rngI hK_a0 rfl hF_wd
  have hF_hg := hf_hg.get hO_a0
  have hrhg : 2 ≤ hg.toInt ∧ hg.toInt ≤ 6 := jok_rngI hK_a0 rfl hF_hg
  have hF_rh := hr_rh.get hO_a0
  obtain ⟨w_rh, hFq_rh, b_rh, hbq_rh, hb_rh⟩ := hK_a0.2 25 (.inr (some (.inl 43))) rfl
  cases hF_rh.symm.trans (hFq_rh.trans (congrArg some hbq_rh))
  obtain ⟨hN_H43, hv_H43⟩ := WT_rngI (r := (0, 1)) hW id rfl ha_H43
  clear hN_H43
  refine Jz_iconst 0 dX7_open_0 (by decide) (fun y0 he0 => ?_)
  refine J_istore_n dX7_open_1 rfl (by decide) ?_
  refine Jz_iconst 0 dX7_open_2 (by decide) (fun y2 he2 => ?_)
  refine J_istore_n dX7_open_3 rfl (by decide) ?_
  have L4 : ∀ (N : Nat) (i1n4 : Int32) (i2n4 : Int32), (0 ≤ i2n4.toInt ∧ i2n4.toInt ≤ wd.toInt * hg.toInt) → (i1n4.toInt = ((jcn 1 H43 i2n4.toInt.toNat : Nat) : Int)) → (300 - i2n4.toInt).toNat < N → J tS mX7_open d 4 [some (.ref a0), some (.int i1n4), some (.int i2n4)] [] V0 0 0 (fun r V => (fun r _ => ∃ y : Int32, r = some (.int y) ∧ ((-2147483648) ≤ y.toInt) ∧ (y.toInt ≤ 2147483647) ∧ (y.toInt = ((jcn 1 H43 (wd.toInt * hg.toInt).toNat : Nat) : Int))) r V ∧ V = V0) := by
    intro N
    induction N with
    | zero => intro i1n4 i2n4  hi2 hc hm; exact absurd hm (Nat.not_lt_zero _)
    | succ N ih =>
      intro i1n4 i2n4  hi2 hc hm
      have ih4 := ih
      have hri2 := j_rng i2n4
      have hm2 := Int.mul_nonneg (show 0 ≤ wd.toInt by omega) (show 0 ≤ hg.toInt by omega)
      have hm3 := Int.mul_le_mul_of_nonneg_left (show hg.toInt ≤ 6 by omega) (show 0 ≤ wd.toInt by omega)
      have hjl := jcn_le (c := 1) (F := H43) i2n4.toInt.toNat
      refine J_iload_n dX7_open_4 rfl ?_
      refine J_aload_n dX7_open_5 rfl ?_
      refine J_get jf_X7_73 dX7_open_6 hO_a0 hF_wd ?_
      refine J_aload_n dX7_open_9 rfl ?_
      refine J_get jf_X7_77 dX7_open_10 hO_a0 hF_hg ?_
      refine Jz_imul jEq.rf jEq.rf dX7_open_13 (by omega) (by omega) (fun y13 he13 => ?_)
      refine Jz_icmp_ge (tgt := 40) jEq.rf he13 dX7_open_14 (by decide) (fun c14 => ?_) (fun c14 => ?_)
      · refine J_iload_n dX7_open_40 rfl ?_
        exact J_ret (r := some (.int _)) dX7_open_41 ⟨rfl, _, rfl, rfl⟩ (⟨⟨_, rfl, (j_rng _).1, (j_rng _).2, (by rw [show wd.toInt * hg.toInt = i2n4.toInt by omega]; exact hc)⟩, rfl⟩)
      · refine J_iload_n dX7_open_17 rfl ?_
        refine J_aload_n dX7_open_18 rfl ?_
        refine J_get jf_X7_80 dX7_open_19 hO_a0 hF_rh ?_
        refine J_iload_n dX7_open_22 rfl ?_
        refine Jz_zald (r := (0, 1)) jEq.rf dX7_open_23 ha_H43 rfl hv_H43 (by omega) (by omega) (fun y23 hf23 hl23 hh23 => ?_)
        dsimp only at hl23 hh23
        refine Jz_if_eq (tgt := 31) jEq.rf dX7_open_24 (by decide) (fun c24 => ?_) (fun c24 => ?_)
        · refine Jz_iconst 1 dX7_open_31 (by decide) (fun y31 he31 => ?_)
          refine Jz_iadd jEq.rf he31 dX7_open_32 (by omega) (by omega) (fun y32 he32 => ?_)
          refine J_istore_n dX7_open_33 rfl (by decide) ?_
          refine Jz_iinc 1 dX7_open_34 rfl rfl (by decide) jEq.rf (by decide) (by omega) (by omega) (fun y34 he34 => ?_)
          refine J_goto (tgt := 4) dX7_open_37 (by decide) ?_
          refine J.mask [true, true, true] ?_
          exact ih4  y32 y34  (by (try simp only [he32.eq, he34.eq, true_and, and_true]) <;> omega) (by rw [he32.eq, he34.eq, show (i2n4.toInt + 1).toNat = i2n4.toInt.toNat + 1 by omega, show jcn 1 H43 (i2n4.toInt.toNat + 1) = jcn 1 H43 i2n4.toInt.toNat + (if (H43 i2n4.toInt.toNat).toInt = 1 then 0 else 1) from rfl, if_neg (by rw [hf23]; omega)]; omega) (by (try simp only [he32.eq, he34.eq, true_and, and_true]) <;> omega)
        · refine Jz_iconst 0 dX7_open_27 (by decide) (fun y27 he27 => ?_)
          refine J_goto (tgt := 32) dX7_open_28 (by decide) ?_
          refine Jz_iadd jEq.rf he27 dX7_open_32 (by omega) (by omega) (fun y32 he32 => ?_)
          refine J_istore_n dX7_open_33 rfl (by decide) ?_
          refine Jz_iinc 1 dX7_open_34 rfl rfl (by decide) jEq.rf (by decide) (by omega) (by omega) (fun y34 he34 => ?_)
          refine J_goto (tgt := 4) dX7_open_37 (by decide) ?_
          refine J.mask [true, true, true] ?_
          exact ih4  y32 y34  (by (try simp only [he32.eq, he34.eq, true_and, and_true]) <;> omega) (by rw [he32.eq, he34.eq, show (i2n4.toInt + 1).toNat = i2n4.toInt.toNat + 1 by omega, show jcn 1 H43 (i2n4.toInt.toNat + 1) = jcn 1 H43 i2n4.toInt.toNat + (if (H43 i2n4.toInt.toNat).toInt = 1 then 0 else 1) from rfl, if_pos (by rw [hf23]; omega)]; omega) (by (try simp only [he32.eq, he34.eq, true_and, and_true]) <;> omega)
  refine J.mask [true, true, true] ?_
  exact L4 _  y0 y2    (by rw [he2.eq]; have hm2 := Int.mul_nonneg (show 0 ≤ wd.toInt by omega) (show 0 ≤ hg.toInt by omega); omega) (by rw [he0.eq, he2.eq]; rfl) (Nat.lt_succ_self _)
set_option maxRecDepth 100000 in
set_option maxHeartbeats 8000000 in
theorem w_X7_count_z {tS : jTS} (d : Nat) (V0 : jH) (a0 : Nat) (x1 : Int32) (v0 : Int32) (wd : Int32) (hg : Int32) (rh : Nat) (H43 : Nat → Int32) (hd : 1 ≤ d) (hW : WT V0) (ha0 : jis V0 (.inr 5) a0) (hf_v0 : jfI V0 a0 5 0 v0) (hf_wd : jfI V0 a0 5 23 wd) (hf_hg : jfI V0 a0 5 24 hg) (hr_rh : jfR V0 a0 5 25 rh) (ha_H43 : V0 rh = some (.inl (43, 36, .inl H43))) (hp0 : 2 ≤ wd.toInt) (hp1 : wd.toInt ≤ 6) (hp2 : 2 ≤ hg.toInt) (hp3 : hg.toInt ≤ 6) : jTot tS mX7_count d [.ref a0, .int x1] V0 0 0 (fun r V => (fun r _ => ∃ y : Int32, r = some (.int y) ∧ ((-2147483648) ≤ y.toInt) ∧ (y.toInt ≤ 2147483647) ∧ ((x1.toInt = 0 ∧ y.toInt = v0.toInt) ∨ (x1.toInt = 1 ∧ y.toInt = ((jcn 1 H43 (wd.toInt * hg.toInt).toNat : Nat) : Int)) ∨ (x1.toInt = 2 ∧ y.toInt = wd.toInt) ∨ (x1.toInt = 3 ∧ y.toInt = hg.toInt) ∨ (¬ (0 ≤ x1.toInt ∧ x1.toInt ≤ 3) ∧ y.toInt = -2))) r V ∧ V = V0) := by
  refine jTot.of_J [some (.ref a0), some (.int x1)] moX7_count (Nat.le_of_ble_eq_true rfl) rfl ?_
  have hrx1 := j_rng x1
  have he : jeff [] V0 V0 := jeff.refl _ _
  obtain ⟨fs_a0, hO_a0, hK_a0⟩ := WT_obj hW id ha0
  have hF_v0 := hf_v0.get hO_a0
  have hrv0 : 0 ≤ v0.toInt ∧ v0.toInt ≤ 16 := jok_rngI hK_a0 rfl hF_v0
  have hF_wd := hf_wd.get hO_a0
  have hrwd : 2 ≤ wd.toInt ∧ wd.toInt ≤ 6 := jok_rngI hK_a0 rfl hF_wd
  have hF_hg := hf_hg.get hO_a0
  have hrhg : 2 ≤ hg.toInt ∧ hg.toInt ≤ 6 := jok_rngI hK_a0 rfl hF_hg
  have hF_rh := hr_rh.get hO_a0
  obtain ⟨w_rh, hFq_rh, b_rh, hbq_rh, hb_rh⟩ := hK_a0.2 25 (.inr (some (.inl 43))) rfl
  cases hF_rh.symm.trans (hFq_rh.trans (congrArg some hbq_rh))
  obtain ⟨hN_H43, hv_H43⟩ := WT_rngI (r := (0, 1)) hW id rfl ha_H43
  clear hN_H43
  refine J_iload_n dX7_count_0 rfl ?_
  refine Jz_if_ne (tgt := 11) jEq.rf dX7_count_1 (by decide) (fun c1 => ?_) (fun c1 => ?_)
  · refine J_iload_n dX7_count_11 rfl ?_
    refine Jz_iconst 1 dX7_count_12 (by decide) (fun y12 he12 => ?_)
    refine Jz_icmp_ne (tgt := 23) jEq.rf he12 dX7_count_13 (by decide) (fun c13 => ?_) (fun c13 => ?_)
    · refine J_iload_n dX7_count_23 rfl ?_
      refine Jz_iconst 2 dX7_count_24 (by decide) (fun y24 he24 => ?_)
      refine Jz_icmp_ne (tgt := 35) jEq.rf he24 dX7_count_25 (by decide) (fun c25 => ?_) (fun c25 => ?_)
      · refine J_iload_n dX7_count_35 rfl ?_
        refine Jz_iconst 3 dX7_count_36 (by decide) (fun y36 he36 => ?_)
        refine Jz_icmp_ne (tgt := 47) jEq.rf he36 dX7_count_37 (by decide) (fun c37 => ?_) (fun c37 => ?_)
        · refine Jz_bipush (-2) dX7_count_47 (by decide) (fun y47 he47 => ?_)
          exact J_ret (r := some (.int _)) dX7_count_49 ⟨rfl, _, rfl, rfl⟩ (⟨⟨_, rfl, (j_rng _).1, (j_rng _).2, (by (try simp only [he47.eq, true_and, and_true]) <;> omega)⟩, rfl⟩)
        · refine J_aload_n dX7_count_40 rfl ?_
          refine J_get jf_X7_77 dX7_count_41 hO_a0 hF_hg ?_
          refine J_goto (tgt := 49) dX7_count_44 (by decide) ?_
          exact J_ret (r := some (.int _)) dX7_count_49 ⟨rfl, _, rfl, rfl⟩ (⟨⟨_, rfl, (j_rng _).1, (j_rng _).2, (by omega)⟩, rfl⟩)
      · refine J_aload_n dX7_count_28 rfl ?_
        refine J_get jf_X7_73 dX7_count_29 hO_a0 hF_wd ?_
        refine J_goto (tgt := 49) dX7_count_32 (by decide) ?_
        exact J_ret (r := some (.int _)) dX7_count_49 ⟨rfl, _, rfl, rfl⟩ (⟨⟨_, rfl, (j_rng _).1, (j_rng _).2, (by omega)⟩, rfl⟩)
    · refine J_aload_n dX7_count_16 rfl ?_
      refine Jw_callV0 (q9 := (RX7, TX7, 34)) moX7_open jw_ml_X7_224 jw_im_X7_open jw_se_X7_open ha0 rfl rfl dX7_count_17 (w_X7_open_z (d - 1) _ a0 wd hg rh H43 (by omega) hW  ha0 ⟨_, hO_a0, hF_wd⟩ ⟨_, hO_a0, hF_hg⟩ ⟨_, hO_a0, hF_rh⟩ ha_H43 (by omega) (by omega) (by omega) (by omega)) (by omega) (Nat.zero_le _) (Nat.zero_le _) (Nat.le_of_ble_eq_true rfl) (fun r17 V17 h17 => ?_)
      obtain ⟨⟨y17, rfl, hl17, hh17, hP17_0⟩, hE17⟩ := h17
      have hE17 := hE17.symm
      subst hE17
      clear hl17 hh17
      refine J_goto (tgt := 49) dX7_count_20 (by decide) ?_
      exact J_ret (r := some (.int _)) dX7_count_49 ⟨rfl, _, rfl, rfl⟩ (⟨⟨_, rfl, (j_rng _).1, (j_rng _).2, (by omega)⟩, rfl⟩)
  · refine J_aload_n dX7_count_4 rfl ?_
    refine J_get jf_X7_102 dX7_count_5 hO_a0 hF_v0 ?_
    refine J_goto (tgt := 49) dX7_count_8 (by decide) ?_
    exact J_ret (r := some (.int _)) dX7_count_49 ⟨rfl, _, rfl, rfl⟩ (⟨⟨_, rfl, (j_rng _).1, (j_rng _).2, (by omega)⟩, rfl⟩)
set_option maxRecDepth 100000 in
set_option maxHeartbeats 8000000 in
theorem w_X7_stepX_z {tS : jTS} (d : Nat) (V0 : jH) (x0 : Int32) (x1 : Int32) (hd : 0 ≤ d)  (hp0 : 0 ≤ x0.toInt) (hp1 : x0.toInt ≤ 3) : jTot tS mX7_stepX d [.int x0, .int x1] V0 0 0 (fun r V => (fun r _ => ∃ y : Int32, r = some (.int y) ∧ ((-1) ≤ y.toInt) ∧ (y.toInt ≤ 1) ∧ (y.toInt = jsx x0.toInt x1.toInt)) r V ∧ V = V0) := by
  refine jTot.of_J [some (.int x0), some (.int x1)] moX7_stepX (Nat.le_of_ble_eq_true rfl) rfl ?_
  have hrx0 := j_rng x0
  have hrx1 := j_rng x1
  refine J_iload_n dX7_stepX_0 rfl ?_
  rcases jsw2 x0 with hx1 | hx1 | hx1 | hx1 | hx1
  · have hx1t : x0.toInt = 0 := by rw [hx1]; rfl
    clear hx1
    refine J_tableIn (tgt := 28) dX7_stepX_1 (by omega) (by omega) (by rw [hx1t]; rfl) (by decide) ?_
    refine J_iload_n dX7_stepX_28 rfl ?_
    refine Jz_if_ne (tgt := 36) jEq.rf dX7_stepX_29 (by decide) (fun c29 => ?_) (fun c29 => ?_)
    · refine J_iload_n dX7_stepX_36 rfl ?_
      refine Jz_iconst 2 dX7_stepX_37 (by decide) (fun y37 he37 => ?_)
      refine Jz_icmp_ne (tgt := 45) jEq.rf he37 dX7_stepX_38 (by decide) (fun c38 => ?_) (fun c38 => ?_)
      · refine Jz_iconst 0 dX7_stepX_45 (by decide) (fun y45 he45 => ?_)
        exact J_ret (r := some (.int _)) dX7_stepX_46 ⟨rfl, _, rfl, rfl⟩ (⟨⟨_, rfl, (by (try simp only [he45.eq, true_and, and_true]) <;> omega), (by (try simp only [he45.eq, true_and, and_true]) <;> omega), (by first | ((try simp only [he45.eq, true_and, and_true]) <;> omega) | ((try simp only [he45.eq]); unfold jsx; (repeat' split) <;> omega))⟩, rfl⟩)
      · refine Jz_iconst (-1) dX7_stepX_41 (by decide) (fun y41 he41 => ?_)
        refine J_goto (tgt := 46) dX7_stepX_42 (by decide) ?_
        exact J_ret (r := some (.int _)) dX7_stepX_46 ⟨rfl, _, rfl, rfl⟩ (⟨⟨_, rfl, (by (try simp only [he41.eq, true_and, and_true]) <;> omega), (by (try simp only [he41.eq, true_and, and_true]) <;> omega), (by first | ((try simp only [he41.eq, true_and, and_true]) <;> omega) | ((try simp only [he41.eq]); unfold jsx; (repeat' split) <;> omega))⟩, rfl⟩)
    · refine Jz_iconst 1 dX7_stepX_32 (by decide) (fun y32 he32 => ?_)
      refine J_goto (tgt := 46) dX7_stepX_33 (by decide) ?_
      exact J_ret (r := some (.int _)) dX7_stepX_46 ⟨rfl, _, rfl, rfl⟩ (⟨⟨_, rfl, (by (try simp only [he32.eq, true_and, and_true]) <;> omega), (by (try simp only [he32.eq, true_and, and_true]) <;> omega), (by first | ((try simp only [he32.eq, true_and, and_true]) <;> omega) | ((try simp only [he32.eq]); unfold jsx; (repeat' split) <;> omega))⟩, rfl⟩)
  · have hx1t : x0.toInt = 1 := by rw [hx1]; rfl
    clear hx1
    refine J_tableIn (tgt := 47) dX7_stepX_1 (by omega) (by omega) (by rw [hx1t]; rfl) (by decide) ?_
    refine J_iload_n dX7_stepX_47 rfl ?_
    refine Jz_if_eq (tgt := 56) jEq.rf dX7_stepX_48 (by decide) (fun c48 => ?_) (fun c48 => ?_)
    · refine Jz_iconst 1 dX7_stepX_56 (by decide) (fun y56 he56 => ?_)
      refine J_goto (tgt := 75) dX7_stepX_57 (by decide) ?_
      exact J_ret (r := some (.int _)) dX7_stepX_75 ⟨rfl, _, rfl, rfl⟩ (⟨⟨_, rfl, (by (try simp only [he56.eq, true_and, and_true]) <;> omega), (by (try simp only [he56.eq, true_and, and_true]) <;> omega), (by first | ((try simp only [he56.eq, true_and, and_true]) <;> omega) | ((try simp only [he56.eq]); unfold jsx; (repeat' split) <;> omega))⟩, rfl⟩)
    · refine J_iload_n dX7_stepX_51 rfl ?_
      refine Jz_iconst 5 dX7_stepX_52 (by decide) (fun y52 he52 => ?_)
      refine Jz_icmp_ne (tgt := 60) jEq.rf he52 dX7_stepX_53 (by decide) (fun c53 => ?_) (fun c53 => ?_)
      · refine J_iload_n dX7_stepX_60 rfl ?_
        refine Jz_iconst 2 dX7_stepX_61 (by decide) (fun y61 he61 => ?_)
        refine Jz_icmp_eq (tgt := 70) jEq.rf he61 dX7_stepX_62 (by decide) (fun c62 => ?_) (fun c62 => ?_)
        · refine Jz_iconst (-1) dX7_stepX_70 (by decide) (fun y70 he70 => ?_)
          refine J_goto (tgt := 75) dX7_stepX_71 (by decide) ?_
          exact J_ret (r := some (.int _)) dX7_stepX_75 ⟨rfl, _, rfl, rfl⟩ (⟨⟨_, rfl, (by (try simp only [he70.eq, true_and, and_true]) <;> omega), (by (try simp only [he70.eq, true_and, and_true]) <;> omega), (by first | ((try simp only [he70.eq, true_and, and_true]) <;> omega) | ((try simp only [he70.eq]); unfold jsx; (repeat' split) <;> omega))⟩, rfl⟩)
        · refine J_iload_n dX7_stepX_65 rfl ?_
          refine Jz_iconst 3 dX7_stepX_66 (by decide) (fun y66 he66 => ?_)
          refine Jz_icmp_ne (tgt := 74) jEq.rf he66 dX7_stepX_67 (by decide) (fun c67 => ?_) (fun c67 => ?_)
          · refine Jz_iconst 0 dX7_stepX_74 (by decide) (fun y74 he74 => ?_)
            exact J_ret (r := some (.int _)) dX7_stepX_75 ⟨rfl, _, rfl, rfl⟩ (⟨⟨_, rfl, (by (try simp only [he74.eq, true_and, and_true]) <;> omega), (by (try simp only [he74.eq, true_and, and_true]) <;> omega), (by first | ((try simp only [he74.eq, true_and, and_true]) <;> omega) | ((try simp only [he74.eq]); unfold jsx; (repeat' split) <;> omega))⟩, rfl⟩)
          · refine Jz_iconst (-1) dX7_stepX_70 (by decide) (fun y70 he70 => ?_)
            refine J_goto (tgt := 75) dX7_stepX_71 (by decide) ?_
            exact J_ret (r := some (.int _)) dX7_stepX_75 ⟨rfl, _, rfl, rfl⟩ (⟨⟨_, rfl, (by (try simp only [he70.eq, true_and, and_true]) <;> omega), (by (try simp only [he70.eq, true_and, and_true]) <;> omega), (by first | ((try simp only [he70.eq, true_and, and_true]) <;> omega) | ((try simp only [he70.eq]); unfold jsx; (repeat' split) <;> omega))⟩, rfl⟩)
      · refine Jz_iconst 1 dX7_stepX_56 (by decide) (fun y56 he56 => ?_)
        refine J_goto (tgt := 75) dX7_stepX_57 (by decide) ?_
        exact J_ret (r := some (.int _)) dX7_stepX_75 ⟨rfl, _, rfl, rfl⟩ (⟨⟨_, rfl, (by (try simp only [he56.eq, true_and, and_true]) <;> omega), (by (try simp only [he56.eq, true_and, and_true]) <;> omega), (by first | ((try simp only [he56.eq, true_and, and_true]) <;> omega) | ((try simp only [he56.eq]); unfold jsx; (repeat' split) <;> omega))⟩, rfl⟩)
  · have hx1t : x0.toInt = 2 := by rw [hx1]; rfl
    clear hx1
    refine J_tableIn (tgt := 76) dX7_stepX_1 (by omega) (by omega) (by rw [hx1t]; rfl) (by decide) ?_
    refine J_iload_n dX7_stepX_76 rfl ?_
    refine Jz_if_ne (tgt := 84) jEq.rf dX7_stepX_77 (by decide) (fun c77 => ?_) (fun c77 => ?_)
    · refine J_iload_n dX7_stepX_84 rfl ?_
      refine Jz_iconst 1 dX7_stepX_85 (by decide) (fun y85 he85 => ?_)
      refine Jz_icmp_ne (tgt := 93) jEq.rf he85 dX7_stepX_86 (by decide) (fun c86 => ?_) (fun c86 => ?_)
      · refine Jz_iconst 0 dX7_stepX_93 (by decide) (fun y93 he93 => ?_)
        exact J_ret (r := some (.int _)) dX7_stepX_94 ⟨rfl, _, rfl, rfl⟩ (⟨⟨_, rfl, (by (try simp only [he93.eq, true_and, and_true]) <;> omega), (by (try simp only [he93.eq, true_and, and_true]) <;> omega), (by first | ((try simp only [he93.eq, true_and, and_true]) <;> omega) | ((try simp only [he93.eq]); unfold jsx; (repeat' split) <;> omega))⟩, rfl⟩)
      · refine Jz_iconst (-1) dX7_stepX_89 (by decide) (fun y89 he89 => ?_)
        refine J_goto (tgt := 94) dX7_stepX_90 (by decide) ?_
        exact J_ret (r := some (.int _)) dX7_stepX_94 ⟨rfl, _, rfl, rfl⟩ (⟨⟨_, rfl, (by (try simp only [he89.eq, true_and, and_true]) <;> omega), (by (try simp only [he89.eq, true_and, and_true]) <;> omega), (by first | ((try simp only [he89.eq, true_and, and_true]) <;> omega) | ((try simp only [he89.eq]); unfold jsx; (repeat' split) <;> omega))⟩, rfl⟩)
    · refine Jz_iconst 1 dX7_stepX_80 (by decide) (fun y80 he80 => ?_)
      refine J_goto (tgt := 94) dX7_stepX_81 (by decide) ?_
      exact J_ret (r := some (.int _)) dX7_stepX_94 ⟨rfl, _, rfl, rfl⟩ (⟨⟨_, rfl, (by (try simp only [he80.eq, true_and, and_true]) <;> omega), (by (try simp only [he80.eq, true_and, and_true]) <;> omega), (by first | ((try simp only [he80.eq, true_and, and_true]) <;> omega) | ((try simp only [he80.eq]); unfold jsx; (repeat' split) <;> omega))⟩, rfl⟩)
  · refine J_tableOut (tgt := 95) dX7_stepX_1 (Or.inl hx1) (by decide) ?_
    refine J_iload_n dX7_stepX_95 rfl ?_
    refine Jz_if_ne (tgt := 103) jEq.rf dX7_stepX_96 (by decide) (fun c96 => ?_) (fun c96 => ?_)
    · refine J_iload_n dX7_stepX_103 rfl ?_
      refine Jz_iconst 3 dX7_stepX_104 (by decide) (fun y104 he104 => ?_)
      refine Jz_icmp_ne (tgt := 112) jEq.rf he104 dX7_stepX_105 (by decide) (fun c105 => ?_) (fun c105 => ?_)
      · refine Jz_iconst 0 dX7_stepX_112 (by decide) (fun y112 he112 => ?_)
        exact J_ret (r := some (.int _)) dX7_stepX_113 ⟨rfl, _, rfl, rfl⟩ (⟨⟨_, rfl, (by (try simp only [he112.eq, true_and, and_true]) <;> omega), (by (try simp only [he112.eq, true_and, and_true]) <;> omega), (by first | ((try simp only [he112.eq, true_and, and_true]) <;> omega) | ((try simp only [he112.eq]); unfold jsx; (repeat' split) <;> omega))⟩, rfl⟩)
      · refine Jz_iconst (-1) dX7_stepX_108 (by decide) (fun y108 he108 => ?_)
        refine J_goto (tgt := 113) dX7_stepX_109 (by decide) ?_
        exact J_ret (r := some (.int _)) dX7_stepX_113 ⟨rfl, _, rfl, rfl⟩ (⟨⟨_, rfl, (by (try simp only [he108.eq, true_and, and_true]) <;> omega), (by (try simp only [he108.eq, true_and, and_true]) <;> omega), (by first | ((try simp only [he108.eq, true_and, and_true]) <;> omega) | ((try simp only [he108.eq]); unfold jsx; (repeat' split) <;> omega))⟩, rfl⟩)
    · refine Jz_iconst 1 dX7_stepX_99 (by decide) (fun y99 he99 => ?_)
      refine J_goto (tgt := 113) dX7_stepX_100 (by decide) ?_
      exact J_ret (r := some (.int _)) dX7_stepX_113 ⟨rfl, _, rfl, rfl⟩ (⟨⟨_, rfl, (by (try simp only [he99.eq, true_and, and_true]) <;> omega), (by (try simp only [he99.eq, true_and, and_true]) <;> omega), (by first | ((try simp only [he99.eq, true_and, and_true]) <;> omega) | ((try simp only [he99.eq]); unfold jsx; (repeat' split) <;> omega))⟩, rfl⟩)
  · refine J_tableOut (tgt := 95) dX7_stepX_1 (Or.inr hx1) (by decide) ?_
    refine J_iload_n dX7_stepX_95 rfl ?_
    refine Jz_if_ne (tgt := 103) jEq.rf dX7_stepX_96 (by decide) (fun c96 => ?_) (fun c96 => ?_)
    · refine J_iload_n dX7_stepX_103 rfl ?_
      refine Jz_iconst 3 dX7_stepX_104 (by decide) (fun y104 he104 => ?_)
      refine Jz_icmp_ne (tgt := 112) jEq.rf he104 dX7_stepX_105 (by decide) (fun c105 => ?_) (fun c105 => ?_)
      · refine Jz_iconst 0 dX7_stepX_112 (by decide) (fun y112 he112 => ?_)
        exact J_ret (r := some (.int _)) dX7_stepX_113 ⟨rfl, _, rfl, rfl⟩ (⟨⟨_, rfl, (by (try simp only [he112.eq, true_and, and_true]) <;> omega), (by (try simp only [he112.eq, true_and, and_true]) <;> omega), (by first | ((try simp only [he112.eq, true_and, and_true]) <;> omega) | ((try simp only [he112.eq]); unfold jsx; (repeat' split) <;> omega))⟩, rfl⟩)
      · refine Jz_iconst (-1) dX7_stepX_108 (by decide) (fun y108 he108 => ?_)
        refine J_goto (tgt := 113) dX7_stepX_109 (by decide) ?_
        exact J_ret (r := some (.int _)) dX7_stepX_113 ⟨rfl, _, rfl, rfl⟩ (⟨⟨_, rfl, (by (try simp only [he108.eq, true_and, and_true]) <;> omega), (by (try simp only [he108.eq, true_and, and_true]) <;> omega), (by first | ((try simp only [he108.eq, true_and, and_true]) <;> omega) | ((try simp only [he108.eq]); unfold jsx; (repeat' split) <;> omega))⟩, rfl⟩)
    · refine Jz_iconst 1 dX7_stepX_99 (by decide) (fun y99 he99 => ?_)
      refine J_goto (tgt := 113) dX7_stepX_100 (by decide) ?_
      exact J_ret (r := some (.int _)) dX7_stepX_113 ⟨rfl, _, rfl, rfl⟩ (⟨⟨_, rfl, (by (try simp only [he99.eq, true_and, and_true]) <;> omega), (by (try simp only [he99.eq, true_and, and_true]) <;> omega), (by first | ((try simp only [he99.eq, true_and, and_true]) <;> omega) | ((try simp only [he99.eq]); unfold jsx; (repeat' split) <;> omega))⟩, rfl⟩)
set_option maxRecDepth 100000 in
set_option maxHeartbeats 8000000 in
theorem w_X7_stepY_z {tS : jTS} (d : Nat) (V0 : jH) (x0 : Int32) (x1 : Int32) (x2 : Int32) (hd : 0 ≤ d)  (hp0 : 0 ≤ x0.toInt) (hp1 : x0.toInt ≤ 3) : jTot tS mX7_stepY d [.int x0, .int x1, .int x2] V0 0 0 (fun r V => (fun r _ => ∃ y : Int32, r = some (.int y) ∧ ((-1) ≤ y.toInt) ∧ (y.toInt ≤ 1) ∧ (y.toInt = jsy x0.toInt x1.toInt x2.toInt)) r V ∧ V = V0) := by
  refine jTot.of_J [some (.int x0), some (.int x1), some (.int x2)] moX7_stepY (Nat.le_of_ble_eq_true rfl) rfl ?_
  have hrx0 := j_rng x0
  have hrx1 := j_rng x1
  have hrx2 := j_rng x2
  refine J_iload_n dX7_stepY_0 rfl ?_
  rcases jsw2 x0 with hx1 | hx1 | hx1 | hx1 | hx1
  · have hx1t : x0.toInt = 0 := by rw [hx1]; rfl
    clear hx1
    refine J_tableIn (tgt := 28) dX7_stepY_1 (by omega) (by omega) (by rw [hx1t]; rfl) (by decide) ?_
    refine J_iload_n dX7_stepY_28 rfl ?_
    refine Jz_iconst 1 dX7_stepY_29 (by decide) (fun y29 he29 => ?_)
    refine Jz_icmp_ne (tgt := 37) jEq.rf he29 dX7_stepY_30 (by decide) (fun c30 => ?_) (fun c30 => ?_)
    · refine J_iload_n dX7_stepY_37 rfl ?_
      refine Jz_iconst 3 dX7_stepY_38 (by decide) (fun y38 he38 => ?_)
      refine Jz_icmp_ne (tgt := 46) jEq.rf he38 dX7_stepY_39 (by decide) (fun c39 => ?_) (fun c39 => ?_)
      · refine Jz_iconst 0 dX7_stepY_46 (by decide) (fun y46 he46 => ?_)
        exact J_ret (r := some (.int _)) dX7_stepY_47 ⟨rfl, _, rfl, rfl⟩ (⟨⟨_, rfl, (by (try simp only [he46.eq, true_and, and_true]) <;> omega), (by (try simp only [he46.eq, true_and, and_true]) <;> omega), (by first | ((try simp only [he46.eq, true_and, and_true]) <;> omega) | ((try simp only [he46.eq]); unfold jsy; (repeat' split) <;> omega))⟩, rfl⟩)
      · refine Jz_iconst (-1) dX7_stepY_42 (by decide) (fun y42 he42 => ?_)
        refine J_goto (tgt := 47) dX7_stepY_43 (by decide) ?_
        exact J_ret (r := some (.int _)) dX7_stepY_47 ⟨rfl, _, rfl, rfl⟩ (⟨⟨_, rfl, (by (try simp only [he42.eq, true_and, and_true]) <;> omega), (by (try simp only [he42.eq, true_and, and_true]) <;> omega), (by first | ((try simp only [he42.eq, true_and, and_true]) <;> omega) | ((try simp only [he42.eq]); unfold jsy; (repeat' split) <;> omega))⟩, rfl⟩)
    · refine Jz_iconst 1 dX7_stepY_33 (by decide) (fun y33 he33 => ?_)
      refine J_goto (tgt := 47) dX7_stepY_34 (by decide) ?_
      exact J_ret (r := some (.int _)) dX7_stepY_47 ⟨rfl, _, rfl, rfl⟩ (⟨⟨_, rfl, (by (try simp only [he33.eq, true_and, and_true]) <;> omega), (by (try simp only [he33.eq, true_and, and_true]) <;> omega), (by first | ((try simp only [he33.eq, true_and, and_true]) <;> omega) | ((try simp only [he33.eq]); unfold jsy; (repeat' split) <;> omega))⟩, rfl⟩)
  · have hx1t : x0.toInt = 1 := by rw [hx1]; rfl
    clear hx1
    refine J_tableIn (tgt := 48) dX7_stepY_1 (by omega) (by omega) (by rw [hx1t]; rfl) (by decide) ?_
    refine J_iload_n dX7_stepY_48 rfl ?_
    refine Jz_iconst 1 dX7_stepY_49 (by decide) (fun y49 he49 => ?_)
    refine Jz_icmp_eq (tgt := 58) jEq.rf he49 dX7_stepY_50 (by decide) (fun c50 => ?_) (fun c50 => ?_)
    · refine Jz_iconst 1 dX7_stepY_58 (by decide) (fun y58 he58 => ?_)
      refine J_goto (tgt := 77) dX7_stepY_59 (by decide) ?_
      exact J_ret (r := some (.int _)) dX7_stepY_77 ⟨rfl, _, rfl, rfl⟩ (⟨⟨_, rfl, (by (try simp only [he58.eq, true_and, and_true]) <;> omega), (by (try simp only [he58.eq, true_and, and_true]) <;> omega), (by first | ((try simp only [he58.eq, true_and, and_true]) <;> omega) | ((try simp only [he58.eq]); unfold jsy; (repeat' split) <;> omega))⟩, rfl⟩)
    · refine J_iload_n dX7_stepY_53 rfl ?_
      refine Jz_iconst 2 dX7_stepY_54 (by decide) (fun y54 he54 => ?_)
      refine Jz_icmp_ne (tgt := 62) jEq.rf he54 dX7_stepY_55 (by decide) (fun c55 => ?_) (fun c55 => ?_)
      · refine J_iload_n dX7_stepY_62 rfl ?_
        refine Jz_iconst 4 dX7_stepY_63 (by decide) (fun y63 he63 => ?_)
        refine Jz_icmp_eq (tgt := 72) jEq.rf he63 dX7_stepY_64 (by decide) (fun c64 => ?_) (fun c64 => ?_)
        · refine Jz_iconst (-1) dX7_stepY_72 (by decide) (fun y72 he72 => ?_)
          refine J_goto (tgt := 77) dX7_stepY_73 (by decide) ?_
          exact J_ret (r := some (.int _)) dX7_stepY_77 ⟨rfl, _, rfl, rfl⟩ (⟨⟨_, rfl, (by (try simp only [he72.eq, true_and, and_true]) <;> omega), (by (try simp only [he72.eq, true_and, and_true]) <;> omega), (by first | ((try simp only [he72.eq, true_and, and_true]) <;> omega) | ((try simp only [he72.eq]); unfold jsy; (repeat' split) <;> omega))⟩, rfl⟩)
        · refine J_iload_n dX7_stepY_67 rfl ?_
          refine Jz_iconst 5 dX7_stepY_68 (by decide) (fun y68 he68 => ?_)
          refine Jz_icmp_ne (tgt := 76) jEq.rf he68 dX7_stepY_69 (by decide) (fun c69 => ?_) (fun c69 => ?_)
          · refine Jz_iconst 0 dX7_stepY_76 (by decide) (fun y76 he76 => ?_)
            exact J_ret (r := some (.int _)) dX7_stepY_77 ⟨rfl, _, rfl, rfl⟩ (⟨⟨_, rfl, (by (try simp only [he76.eq, true_and, and_true]) <;> omega), (by (try simp only [he76.eq, true_and, and_true]) <;> omega), (by first | ((try simp only [he76.eq, true_and, and_true]) <;> omega) | ((try simp only [he76.eq]); unfold jsy; (repeat' split) <;> omega))⟩, rfl⟩)
          · refine Jz_iconst (-1) dX7_stepY_72 (by decide) (fun y72 he72 => ?_)
            refine J_goto (tgt := 77) dX7_stepY_73 (by decide) ?_
            exact J_ret (r := some (.int _)) dX7_stepY_77 ⟨rfl, _, rfl, rfl⟩ (⟨⟨_, rfl, (by (try simp only [he72.eq, true_and, and_true]) <;> omega), (by (try simp only [he72.eq, true_and, and_true]) <;> omega), (by first | ((try simp only [he72.eq, true_and, and_true]) <;> omega) | ((try simp only [he72.eq]); unfold jsy; (repeat' split) <;> omega))⟩, rfl⟩)
      · refine Jz_iconst 1 dX7_stepY_58 (by decide) (fun y58 he58 => ?_)
        refine J_goto (tgt := 77) dX7_stepY_59 (by decide) ?_
        exact J_ret (r := some (.int _)) dX7_stepY_77 ⟨rfl, _, rfl, rfl⟩ (⟨⟨_, rfl, (by (try simp only [he58.eq, true_and, and_true]) <;> omega), (by (try simp only [he58.eq, true_and, and_true]) <;> omega), (by first | ((try simp only [he58.eq, true_and, and_true]) <;> omega) | ((try simp only [he58.eq]); unfold jsy; (repeat' split) <;> omega))⟩, rfl⟩)
  · have hx1t : x0.toInt = 2 := by rw [hx1]; rfl
    clear hx1
    refine J_tableIn (tgt := 78) dX7_stepY_1 (by omega) (by omega) (by rw [hx1t]; rfl) (by decide) ?_
    refine J_iload_n dX7_stepY_78 rfl ?_
    refine Jz_iconst 2 dX7_stepY_79 (by decide) (fun y79 he79 => ?_)
    refine Jz_icmp_ge (tgt := 87) jEq.rf he79 dX7_stepY_80 (by decide) (fun c80 => ?_) (fun c80 => ?_)
    · refine J_iload_n dX7_stepY_87 rfl ?_
      refine Jz_iconst 1 dX7_stepY_88 (by decide) (fun y88 he88 => ?_)
      refine J_iand dX7_stepY_89 ?_
      have hz89 : jEq (x2 &&& y88).toInt ((x2.toInt) % 2) := by rw [show y88 = 1 from jI_inj.mp he88.eq, jand1 x2]; rfl
      generalize x2 &&& y88 = y89 at hz89 ⊢
      refine Jz_if_ne (tgt := 97) hz89 dX7_stepY_90 (by decide) (fun c90 => ?_) (fun c90 => ?_)
      · refine Jz_iconst (-1) dX7_stepY_97 (by decide) (fun y97 he97 => ?_)
        exact J_ret (r := some (.int _)) dX7_stepY_98 ⟨rfl, _, rfl, rfl⟩ (⟨⟨_, rfl, (by (try simp only [he97.eq, true_and, and_true]) <;> omega), (by (try simp only [he97.eq, true_and, and_true]) <;> omega), (by first | ((try simp only [he97.eq, true_and, and_true]) <;> omega) | ((try simp only [he97.eq]); unfold jsy; (repeat' split) <;> omega))⟩, rfl⟩)
      · refine Jz_iconst 1 dX7_stepY_93 (by decide) (fun y93 he93 => ?_)
        refine J_goto (tgt := 98) dX7_stepY_94 (by decide) ?_
        exact J_ret (r := some (.int _)) dX7_stepY_98 ⟨rfl, _, rfl, rfl⟩ (⟨⟨_, rfl, (by (try simp only [he93.eq, true_and, and_true]) <;> omega), (by (try simp only [he93.eq, true_and, and_true]) <;> omega), (by first | ((try simp only [he93.eq, true_and, and_true]) <;> omega) | ((try simp only [he93.eq]); unfold jsy; (repeat' split) <;> omega))⟩, rfl⟩)
    · refine Jz_iconst 0 dX7_stepY_83 (by decide) (fun y83 he83 => ?_)
      refine J_goto (tgt := 98) dX7_stepY_84 (by decide) ?_
      exact J_ret (r := some (.int _)) dX7_stepY_98 ⟨rfl, _, rfl, rfl⟩ (⟨⟨_, rfl, (by (try simp only [he83.eq, true_and, and_true]) <;> omega), (by (try simp only [he83.eq, true_and, and_true]) <;> omega), (by first | ((try simp only [he83.eq, true_and, and_true]) <;> omega) | ((try simp only [he83.eq]); unfold jsy; (repeat' split) <;> omega))⟩, rfl⟩)
  · refine J_tableOut (tgt := 99) dX7_stepY_1 (Or.inl hx1) (by decide) ?_
    refine J_iload_n dX7_stepY_99 rfl ?_
    refine Jz_iconst 1 dX7_stepY_100 (by decide) (fun y100 he100 => ?_)
    refine Jz_icmp_ne (tgt := 108) jEq.rf he100 dX7_stepY_101 (by decide) (fun c101 => ?_) (fun c101 => ?_)
    · refine J_iload_n dX7_stepY_108 rfl ?_
      refine Jz_iconst 4 dX7_stepY_109 (by decide) (fun y109 he109 => ?_)
      refine Jz_icmp_ne (tgt := 117) jEq.rf he109 dX7_stepY_110 (by decide) (fun c110 => ?_) (fun c110 => ?_)
      · refine Jz_iconst 0 dX7_stepY_117 (by decide) (fun y117 he117 => ?_)
        exact J_ret (r := some (.int _)) dX7_stepY_118 ⟨rfl, _, rfl, rfl⟩ (⟨⟨_, rfl, (by (try simp only [he117.eq, true_and, and_true]) <;> omega), (by (try simp only [he117.eq, true_and, and_true]) <;> omega), (by first | ((try simp only [he117.eq, true_and, and_true]) <;> omega) | ((try simp only [he117.eq]); unfold jsy; (repeat' split) <;> omega))⟩, rfl⟩)
      · refine Jz_iconst (-1) dX7_stepY_113 (by decide) (fun y113 he113 => ?_)
        refine J_goto (tgt := 118) dX7_stepY_114 (by decide) ?_
        exact J_ret (r := some (.int _)) dX7_stepY_118 ⟨rfl, _, rfl, rfl⟩ (⟨⟨_, rfl, (by (try simp only [he113.eq, true_and, and_true]) <;> omega), (by (try simp only [he113.eq, true_and, and_true]) <;> omega), (by first | ((try simp only [he113.eq, true_and, and_true]) <;> omega) | ((try simp only [he113.eq]); unfold jsy; (repeat' split) <;> omega))⟩, rfl⟩)
    · refine Jz_iconst 1 dX7_stepY_104 (by decide) (fun y104 he104 => ?_)
      refine J_goto (tgt := 118) dX7_stepY_105 (by decide) ?_
      exact J_ret (r := some (.int _)) dX7_stepY_118 ⟨rfl, _, rfl, rfl⟩ (⟨⟨_, rfl, (by (try simp only [he104.eq, true_and, and_true]) <;> omega), (by (try simp only [he104.eq, true_and, and_true]) <;> omega), (by first | ((try simp only [he104.eq, true_and, and_true]) <;> omega) | ((try simp only [he104.eq]); unfold jsy; (repeat' split) <;> omega))⟩, rfl⟩)
  · refine J_tableOut (tgt := 99) dX7_stepY_1 (Or.inr hx1) (by decide) ?_
    refine J_iload_n dX7_stepY_99 rfl ?_
    refine Jz_iconst 1 dX7_stepY_100 (by decide) (fun y100 he100 => ?_)
    refine Jz_icmp_ne (tgt := 108) jEq.rf he100 dX7_stepY_101 (by decide) (fun c101 => ?_) (fun c101 => ?_)
    · refine J_iload_n dX7_stepY_108 rfl ?_
      refine Jz_iconst 4 dX7_stepY_109 (by decide) (fun y109 he109 => ?_)
      refine Jz_icmp_ne (tgt := 117) jEq.rf he109 dX7_stepY_110 (by decide) (fun c110 => ?_) (fun c110 => ?_)
      · refine Jz_iconst 0 dX7_stepY_117 (by decide) (fun y117 he117 => ?_)
        exact J_ret (r := some (.int _)) dX7_stepY_118 ⟨rfl, _, rfl, rfl⟩ (⟨⟨_, rfl, (by (try simp only [he117.eq, true_and, and_true]) <;> omega), (by (try simp only [he117.eq, true_and, and_true]) <;> omega), (by first | ((try simp only [he117.eq, true_and, and_true]) <;> omega) | ((try simp only [he117.eq]); unfold jsy; (repeat' split) <;> omega))⟩, rfl⟩)
      · refine Jz_iconst (-1) dX7_stepY_113 (by decide) (fun y113 he113 => ?_)
        refine J_goto (tgt := 118) dX7_stepY_114 (by decide) ?_
        exact J_ret (r := some (.int _)) dX7_stepY_118 ⟨rfl, _, rfl, rfl⟩ (⟨⟨_, rfl, (by (try simp only [he113.eq, true_and, and_true]) <;> omega), (by (try simp only [he113.eq, true_and, and_true]) <;> omega), (by first | ((try simp only [he113.eq, true_and, and_true]) <;> omega) | ((try simp only [he113.eq]); unfold jsy; (repeat' split) <;> omega))⟩, rfl⟩)
    · refine Jz_iconst 1 dX7_stepY_104 (by decide) (fun y104 he104 => ?_)
      refine J_goto (tgt := 118) dX7_stepY_105 (by decide) ?_
      exact J_ret (r := some (.int _)) dX7_stepY_118 ⟨rfl, _, rfl, rfl⟩ (⟨⟨_, rfl, (by (try simp only [he104.eq, true_and, and_true]) <;> omega), (by (try simp only [he104.eq, true_and, and_true]) <;> omega), (by first | ((try simp only [he104.eq, true_and, and_true]) <;> omega) | ((try simp only [he104.eq]); unfold jsy; (repeat' split) <;> omega))⟩, rfl⟩)
set_option maxRecDepth 100000 in
set_option maxHeartbeats 8000000 in
theorem w_X7_stepZ_z {tS : jTS} (d : Nat) (V0 : jH) (x0 : Int32) (x1 : Int32) (hd : 0 ≤ d)  (hp0 : 0 ≤ x0.toInt) (hp1 : x0.toInt ≤ 3) : jTot tS mX7_stepZ d [.int x0, .int x1] V0 0 0 (fun r V => (fun r _ => ∃ y : Int32, r = some (.int y) ∧ ((-1) ≤ y.toInt) ∧ (y.toInt ≤ 1) ∧ (y.toInt = jsz x0.toInt x1.toInt)) r V ∧ V = V0) := by
  refine jTot.of_J [some (.int x0), some (.int x1)] moX7_stepZ (Nat.le_of_ble_eq_true rfl) rfl ?_
  have hrx0 := j_rng x0
  have hrx1 := j_rng x1
  refine J_iload_n dX7_stepZ_0 rfl ?_
  refine Jz_iconst 3 dX7_stepZ_1 (by decide) (fun y1 he1 => ?_)
  refine Jz_icmp_eq (tgt := 9) jEq.rf he1 dX7_stepZ_2 (by decide) (fun c2 => ?_) (fun c2 => ?_)
  · refine J_iload_n dX7_stepZ_9 rfl ?_
    refine Jz_iconst 2 dX7_stepZ_10 (by decide) (fun y10 he10 => ?_)
    refine Jz_icmp_ne (tgt := 18) jEq.rf he10 dX7_stepZ_11 (by decide) (fun c11 => ?_) (fun c11 => ?_)
    · refine J_iload_n dX7_stepZ_18 rfl ?_
      refine Jz_iconst 5 dX7_stepZ_19 (by decide) (fun y19 he19 => ?_)
      refine Jz_icmp_ne (tgt := 27) jEq.rf he19 dX7_stepZ_20 (by decide) (fun c20 => ?_) (fun c20 => ?_)
      · refine Jz_iconst 0 dX7_stepZ_27 (by decide) (fun y27 he27 => ?_)
        exact J_ret (r := some (.int _)) dX7_stepZ_28 ⟨rfl, _, rfl, rfl⟩ (⟨⟨_, rfl, (by (try simp only [he27.eq, true_and, and_true]) <;> omega), (by (try simp only [he27.eq, true_and, and_true]) <;> omega), (by first | ((try simp only [he27.eq, true_and, and_true]) <;> omega) | ((try simp only [he27.eq]); unfold jsz; (repeat' split) <;> omega))⟩, rfl⟩)
      · refine Jz_iconst (-1) dX7_stepZ_23 (by decide) (fun y23 he23 => ?_)
        refine J_goto (tgt := 28) dX7_stepZ_24 (by decide) ?_
        exact J_ret (r := some (.int _)) dX7_stepZ_28 ⟨rfl, _, rfl, rfl⟩ (⟨⟨_, rfl, (by (try simp only [he23.eq, true_and, and_true]) <;> omega), (by (try simp only [he23.eq, true_and, and_true]) <;> omega), (by first | ((try simp only [he23.eq, true_and, and_true]) <;> omega) | ((try simp only [he23.eq]); unfold jsz; (repeat' split) <;> omega))⟩, rfl⟩)
    · refine Jz_iconst 1 dX7_stepZ_14 (by decide) (fun y14 he14 => ?_)
      refine J_goto (tgt := 28) dX7_stepZ_15 (by decide) ?_
      exact J_ret (r := some (.int _)) dX7_stepZ_28 ⟨rfl, _, rfl, rfl⟩ (⟨⟨_, rfl, (by (try simp only [he14.eq, true_and, and_true]) <;> omega), (by (try simp only [he14.eq, true_and, and_true]) <;> omega), (by first | ((try simp only [he14.eq, true_and, and_true]) <;> omega) | ((try simp only [he14.eq]); unfold jsz; (repeat' split) <;> omega))⟩, rfl⟩)
  · refine Jz_iconst 0 dX7_stepZ_5 (by decide) (fun y5 he5 => ?_)
    refine J_goto (tgt := 28) dX7_stepZ_6 (by decide) ?_
    exact J_ret (r := some (.int _)) dX7_stepZ_28 ⟨rfl, _, rfl, rfl⟩ (⟨⟨_, rfl, (by (try simp only [he5.eq, true_and, and_true]) <;> omega), (by (try simp only [he5.eq, true_and, and_true]) <;> omega), (by first | ((try simp only [he5.eq, true_and, and_true]) <;> omega) | ((try simp only [he5.eq]); unfold jsz; (repeat' split) <;> omega))⟩, rfl⟩)
set_option maxRecDepth 100000 in
set_option maxHeartbeats 8000000 in
theorem w_X7_goes_z {tS : jTS} (d : Nat) (V0 : jH) (a0 : Nat) (x1 : Int32) (n : Int32) (rw : Nat) (px : Nat) (py : Nat) (pz : Nat) (RW : Nat → Int32) (PX : Nat → Int32) (PY : Nat → Int32) (PZ : Nat → Int32) (hd : 1 ≤ d) (hW : WT V0) (ha0 : jis V0 (.inr 5) a0) (hf_n : jfI V0 a0 5 5 n) (hr_rw : jfR V0 a0 5 4 rw) (hr_px : jfR V0 a0 5 6 px) (hr_py : jfR V0 a0 5 7 py) (hr_pz : jfR V0 a0 5 8 pz) (ha_RW : V0 rw = some (.inl (17, 120, .inl RW))) (ha_PX : V0 px = some (.inl (18, 121, .inl PX))) (ha_PY : V0 py = some (.inl (19, 121, .inl PY))) (ha_PZ : V0 pz = some (.inl (20, 121, .inl PZ))) (hp0 : 0 ≤ x1.toInt) (hp1 : x1.toInt ≤ 3) : jTot tS mX7_goes d [.ref a0, .int x1] V0 0 0 (fun r V => (jPost [.inl 18, .inl 19, .inl 20] V0 (fun r _ => ∃ y : Int32, r = some (.int y) ∧ (0 ≤ y.toInt) ∧ (y.toInt ≤ 1) ∧ ((y.toInt = 1 ∧ jav x1.toInt (fun q => (RW q).toInt) n.toInt.toNat) ∨ (y.toInt = 0 ∧ ¬ jav x1.toInt (fun q => (RW q).toInt) n.toInt.toNat)))) r V ∧ (∃ X Y Z : Nat → Int32, V px = some (.inl (18, 121, .inl X)) ∧ V py = some (.inl (19, 121, .inl Y)) ∧ V pz = some (.inl (20, 121, .inl Z)) ∧ jrv x1.toInt (fun q => (RW q).toInt) n.toInt.toNat X Y Z)) := by
  refine jTot.of_J [some (.ref a0), some (.int x1), none, none, none] moX7_goes (Nat.le_of_ble_eq_true rfl) rfl ?_
  have hrx1 := j_rng x1
  have he : jeff [.inl 18, .inl 19, .inl 20] V0 V0 := jeff.refl _ _
  obtain ⟨fs_a0, hO_a0, hK_a0⟩ := WT_obj hW id ha0
  have hF_n := hf_n.get hO_a0
  have hrn : 0 ≤ n.toInt ∧ n.toInt ≤ 120 := jok_rngI hK_a0 rfl hF_n
  have hF_rw := hr_rw.get hO_a0
  obtain ⟨w_rw, hFq_rw, b_rw, hbq_rw, hb_rw⟩ := hK_a0.2 4 (.inr (some (.inl 17))) rfl
  cases hF_rw.symm.trans (hFq_rw.trans (congrArg some hbq_rw))
  have hF_px := hr_px.get hO_a0
  obtain ⟨w_px, hFq_px, b_px, hbq_px, hb_px⟩ := hK_a0.2 6 (.inr (some (.inl 18))) rfl
  cases hF_px.symm.trans (hFq_px.trans (congrArg some hbq_px))
  have hF_py := hr_py.get hO_a0
  obtain ⟨w_py, hFq_py, b_py, hbq_py, hb_py⟩ := hK_a0.2 7 (.inr (some (.inl 19))) rfl
  cases hF_py.symm.trans (hFq_py.trans (congrArg some hbq_py))
  have hF_pz := hr_pz.get hO_a0
  obtain ⟨w_pz, hFq_pz, b_pz, hbq_pz, hb_pz⟩ := hK_a0.2 8 (.inr (some (.inl 20))) rfl
  cases hF_pz.symm.trans (hFq_pz.trans (congrArg some hbq_pz))
  obtain ⟨hN_RW, hv_RW⟩ := WT_rngI (r := ((-2147483648), 2147483647)) hW id rfl ha_RW
  clear hN_RW
  obtain ⟨hN_PX, hv_PX⟩ := WT_rngI (r := ((-2147483648), 2147483647)) hW id rfl ha_PX
  clear hN_PX
  obtain ⟨hN_PY, hv_PY⟩ := WT_rngI (r := ((-2147483648), 2147483647)) hW id rfl ha_PY
  clear hN_PY
  obtain ⟨hN_PZ, hv_PZ⟩ := WT_rngI (r := ((-2147483648), 2147483647)) hW id rfl ha_PZ
  clear hN_PZ
  refine Jz_iconst 1 dX7_goes_0 (by decide) (fun y0 he0 => ?_)
  refine J_istore_n dX7_goes_1 rfl (by decide) ?_
  refine J_aload_n dX7_goes_2 rfl ?_
  refine J_get jf_X7_22 dX7_goes_3 hO_a0 hF_px ?_
  refine Jz_iconst 0 dX7_goes_6 (by decide) (fun y6 he6 => ?_)
  refine Jz_iconst 0 dX7_goes_7 (by decide) (fun y7 he7 => ?_)
  refine Jz_iast (r := ((-2147483648), 2147483647)) he6 he7 hW id dX7_goes_8 ha_PX rfl rfl (by omega) (by omega) (by omega) (by omega) (fun V8 G8 hW hx8 hA8 hp8 ho8 => ?_)
  obtain ⟨hN8, hv8⟩ := WT_rngI (r := ((-2147483648), 2147483647)) hW id rfl hA8
  clear hN8
  have he := he.trans (hx8.sub (jsub_of rfl))
  have ha0 := ha0.mono hx8.1
  have hb_rw := hb_rw.mono hx8.1
  have hb_px := hb_px.mono hx8.1
  have hb_py := hb_py.mono hx8.1
  have hb_pz := hb_pz.mono hx8.1
  have hO_a0 := hx8.2 _ _ hO_a0 (jnot_of rfl)
  have hK_a0 := hK_a0.mono hx8.1
  have ha_RW := hx8.2 _ _ ha_RW (jnot_of rfl)
  have ha_PY := hx8.2 _ _ ha_PY (jnot_of rfl)
  have ha_PZ := hx8.2 _ _ ha_PZ (jnot_of rfl)
  refine J_aload_n dX7_goes_9 rfl ?_
  refine J_get jf_X7_25 dX7_goes_10 hO_a0 hF_py ?_
  refine Jz_iconst 0 dX7_goes_13 (by decide) (fun y13 he13 => ?_)
  refine Jz_iconst 0 dX7_goes_14 (by decide) (fun y14 he14 => ?_)
  refine Jz_iast (r := ((-2147483648), 2147483647)) he13 he14 hW id dX7_goes_15 ha_PY rfl rfl (by omega) (by omega) (by omega) (by omega) (fun V15 G15 hW hx15 hA15 hp15 ho15 => ?_)
  obtain ⟨hN15, hv15⟩ := WT_rngI (r := ((-2147483648), 2147483647)) hW id rfl hA15
  clear hN15
  have he := he.trans (hx15.sub (jsub_of rfl))
  have ha0 := ha0.mono hx15.1
  have hb_rw := hb_rw.mono hx15.1
  have hb_px := hb_px.mono hx15.1
  have hb_py := hb_py.mono hx15.1
  have hb_pz := hb_pz.mono hx15.1
  have hO_a0 := hx15.2 _ _ hO_a0 (jnot_of rfl)
  have hK_a0 := hK_a0.mono hx15.1
  have ha_RW := hx15.2 _ _ ha_RW (jnot_of rfl)
  have ha_PZ := hx15.2 _ _ ha_PZ (jnot_of rfl)
  have hA8 := hx15.2 _ _ hA8 (jnot_of rfl)
  refine J_aload_n dX7_goes_16 rfl ?_
  refine J_get jf_X7_28 dX7_goes_17 hO_a0 hF_pz ?_
  refine Jz_iconst 0 dX7_goes_20 (by decide) (fun y20 he20 => ?_)
  refine Jz_iconst 0 dX7_goes_21 (by decide) (fun y21 he21 => ?_)
  refine Jz_iast (r := ((-2147483648), 2147483647)) he20 he21 hW id dX7_goes_22 ha_PZ rfl rfl (by omega) (by omega) (by omega) (by omega) (fun V22 G22 hW hx22 hA22 hp22 ho22 => ?_)
  obtain ⟨hN22, hv22⟩ := WT_rngI (r := ((-2147483648), 2147483647)) hW id rfl hA22
  clear hN22
  have he := he.trans (hx22.sub (jsub_of rfl))
  have ha0 := ha0.mono hx22.1
  have hb_rw := hb_rw.mono hx22.1
  have hb_px := hb_px.mono hx22.1
  have hb_py := hb_py.mono hx22.1
  have hb_pz := hb_pz.mono hx22.1
  have hO_a0 := hx22.2 _ _ hO_a0 (jnot_of rfl)
  have hK_a0 := hK_a0.mono hx22.1
  have ha_RW := hx22.2 _ _ ha_RW (jnot_of rfl)
  have hA8 := hx22.2 _ _ hA8 (jnot_of rfl)
  have hA15 := hx22.2 _ _ hA15 (jnot_of rfl)
  refine Jz_iconst 0 dX7_goes_23 (by decide) (fun y23 he23 => ?_)
  refine J_istore_n dX7_goes_24 rfl (by decide) ?_
  have L25 : ∀ (N : Nat) (V : jH) (i2n25 : Int32) (i3n25 : Int32) (F18n25 : Nat → Int32) (F19n25 : Nat → Int32) (F20n25 : Nat → Int32), WT V → jeff [.inl 18, .inl 19, .inl 20] V0 V → (jis V (.inr 5) a0) → (jis V (.inl 17) rw) → (jis V (.inl 18) px) → (jis V (.inl 19) py) → (jis V (.inl 20) pz) → (V a0 = some (.inr (5, fs_a0))) → (jokO V (jFs 5) fs_a0) → (V px = some (.inl (18, 121, .inl F18n25))) → (V py = some (.inl (19, 121, .inl F19n25))) → (V pz = some (.inl (20, 121, .inl F20n25))) → (V rw = some (.inl (17, 120, .inl RW))) → (0 ≤ i3n25.toInt ∧ i3n25.toInt ≤ n.toInt) → (jrv x1.toInt (fun q => (RW q).toInt) i3n25.toInt.toNat F18n25 F19n25 F20n25) → ((i2n25.toInt = 1 ∧ jav x1.toInt (fun q => (RW q).toInt) i3n25.toInt.toNat) ∨ (i2n25.toInt = 0 ∧ ¬ jav x1.toInt (fun q => (RW q).toInt) i3n25.toInt.toNat)) → (300 - i3n25.toInt).toNat < N → J tS mX7_goes d 25 [some (.ref a0), some (.int x1), some (.int i2n25), some (.int i3n25), none] [] V 0 0 (fun r V => (jPost [.inl 18, .inl 19, .inl 20] V0 (fun r _ => ∃ y : Int32, r = some (.int y) ∧ (0 ≤ y.toInt) ∧ (y.toInt ≤ 1) ∧ ((y.toInt = 1 ∧ jav x1.toInt (fun q => (RW q).toInt) n.toInt.toNat) ∨ (y.toInt = 0 ∧ ¬ jav x1.toInt (fun q => (RW q).toInt) n.toInt.toNat)))) r V ∧ (∃ X Y Z : Nat → Int32, V px = some (.inl (18, 121, .inl X)) ∧ V py = some (.inl (19, 121, .inl Y)) ∧ V pz = some (.inl (20, 121, .inl Z)) ∧ jrv x1.toInt (fun q => (RW q).toInt) n.toInt.toNat X Y Z)) := by
    intro N
    induction N with
    | zero => intro V i2n25 i3n25 F18n25 F19n25 F20n25 hW he ha0 hb_rw hb_px hb_py hb_pz hO_a0 hK_a0 hAF18n25 hAF19n25 hAF20n25 ha_RW hi3 hjr hon hm; exact absurd hm (Nat.not_lt_zero _)
    | succ N ih =>
      intro V i2n25 i3n25 F18n25 F19n25 F20n25 hW he ha0 hb_rw hb_px hb_py hb_pz hO_a0 hK_a0 hAF18n25 hAF19n25 hAF20n25 ha_RW hi3 hjr hon hm
      have ih25 := ih
      have hri3 := j_rng i3n25
      obtain ⟨hNF18n25, hvF18n25⟩ := WT_rngI (r := ((-2147483648), 2147483647)) hW id rfl hAF18n25
      clear hNF18n25
      obtain ⟨hNF19n25, hvF19n25⟩ := WT_rngI (r := ((-2147483648), 2147483647)) hW id rfl hAF19n25
      clear hNF19n25
      obtain ⟨hNF20n25, hvF20n25⟩ := WT_rngI (r := ((-2147483648), 2147483647)) hW id rfl hAF20n25
      clear hNF20n25
      refine J_iload_n dX7_goes_25 rfl ?_
      refine J_aload_n dX7_goes_26 rfl ?_
      refine J_get jf_X7_109 dX7_goes_27 hO_a0 hF_n ?_
      refine Jz_icmp_ge (tgt := 206) jEq.rf jEq.rf dX7_goes_30 (by decide) (fun c30 => ?_) (fun c30 => ?_)
      · refine J_iload_n dX7_goes_206 rfl ?_
        exact J_ret (r := some (.int _)) dX7_goes_207 ⟨rfl, _, rfl, (nar_b (by omega) (by omega))⟩ (⟨⟨hW, he, ⟨_, rfl, (by omega), (by omega), (by rw [show n.toInt.toNat = i3n25.toInt.toNat by omega]; exact hon)⟩⟩, ⟨F18n25, F19n25, F20n25, hAF18n25, hAF19n25, hAF20n25, by rw [show n.toInt.toNat = i3n25.toInt.toNat by omega]; exact hjr⟩⟩)
      · have hb0 := hjr.b i3n25.toInt.toNat (Nat.le_refl _)
        refine J_aload_n dX7_goes_33 rfl ?_
        refine J_get jf_X7_22 dX7_goes_34 hO_a0 hF_px ?_
        refine J_iload_n dX7_goes_37 rfl ?_
        refine Jz_iconst 1 dX7_goes_38 (by decide) (fun y38 he38 => ?_)
        refine Jz_iadd jEq.rf he38 dX7_goes_39 (by omega) (by omega) (fun y39 he39 => ?_)
        refine J_aload_n dX7_goes_40 rfl ?_
        refine J_get jf_X7_22 dX7_goes_41 hO_a0 hF_px ?_
        refine J_iload_n dX7_goes_44 rfl ?_
        refine Jz_iald (r := ((-2147483648), 2147483647)) jEq.rf dX7_goes_45 hAF18n25 rfl hvF18n25 (by omega) (by omega) (fun y45 hf45 hl45 hh45 => ?_)
        dsimp only at hl45 hh45
        clear hl45 hh45
        rw [hf45] at hb0
        refine J_iload_n dX7_goes_46 rfl ?_
        refine J_aload_n dX7_goes_47 rfl ?_
        refine J_get jf_X7_19 dX7_goes_48 hO_a0 hF_rw ?_
        refine J_iload_n dX7_goes_51 rfl ?_
        refine Jz_iald (r := ((-2147483648), 2147483647)) jEq.rf dX7_goes_52 ha_RW rfl hv_RW (by omega) (by omega) (fun y52 hf52 hl52 hh52 => ?_)
        dsimp only at hl52 hh52
        clear hl52 hh52
        refine J_callS2 moX7_stepX jw_ml_X7_112 jw_st_X7_stepX dX7_goes_53 (w_X7_stepX_z (d - 1) _ x1 y52 (by omega)   (by omega) (by omega)) (by omega) (Nat.zero_le _) (Nat.zero_le _) (Nat.le_of_ble_eq_true rfl) (fun r53 V53 h53 => ?_)
        obtain ⟨⟨y53, rfl, hl53, hh53, hP53_0⟩, hE53⟩ := h53
        have hE53 := hE53.symm
        subst hE53
        have hz53 : jEq y53.toInt (jsx (x1.toInt) (y52.toInt)) := hP53_0
        simp only [hP53_0] at hl53 hh53
        clear hP53_0
        have hbx := jsx_b x1.toInt y52.toInt
        refine Jz_iadd jEq.rf hz53 dX7_goes_56 (by omega) (by omega) (fun y56 he56 => ?_)
        refine Jz_iast (r := ((-2147483648), 2147483647)) he39 he56 hW id dX7_goes_57 hAF18n25 rfl rfl (by omega) (by omega) (by omega) (by omega) (fun V57 G57 hW hx57 hA57 hp57 ho57 => ?_)
        obtain ⟨hN57, hv57⟩ := WT_rngI (r := ((-2147483648), 2147483647)) hW id rfl hA57
        clear hN57
        have he := he.trans (hx57.sub (jsub_of rfl))
        have ha0 := ha0.mono hx57.1
        have hb_rw := hb_rw.mono hx57.1
        have hb_px := hb_px.mono hx57.1
        have hb_py := hb_py.mono hx57.1
        have hb_pz := hb_pz.mono hx57.1
        have hO_a0 := hx57.2 _ _ hO_a0 (jnot_of rfl)
        have hK_a0 := hK_a0.mono hx57.1
        have hAF19n25 := hx57.2 _ _ hAF19n25 (jnot_of rfl)
        have hAF20n25 := hx57.2 _ _ hAF20n25 (jnot_of rfl)
        have ha_RW := hx57.2 _ _ ha_RW (jnot_of rfl)
        refine J_aload_n dX7_goes_58 rfl ?_
        refine J_get jf_X7_25 dX7_goes_59 hO_a0 hF_py ?_
        refine J_iload_n dX7_goes_62 rfl ?_
        refine Jz_iconst 1 dX7_goes_63 (by decide) (fun y63 he63 => ?_)
        refine Jz_iadd jEq.rf he63 dX7_goes_64 (by omega) (by omega) (fun y64 he64 => ?_)
        refine J_aload_n dX7_goes_65 rfl ?_
        refine J_get jf_X7_25 dX7_goes_66 hO_a0 hF_py ?_
        refine J_iload_n dX7_goes_69 rfl ?_
        refine Jz_iald (r := ((-2147483648), 2147483647)) jEq.rf dX7_goes_70 hAF19n25 rfl hvF19n25 (by omega) (by omega) (fun y70 hf70 hl70 hh70 => ?_)
        dsimp only at hl70 hh70
        clear hl70 hh70
        rw [hf70] at hb0
        refine J_iload_n dX7_goes_71 rfl ?_
        refine J_aload_n dX7_goes_72 rfl ?_
        refine J_get jf_X7_19 dX7_goes_73 hO_a0 hF_rw ?_
        refine J_iload_n dX7_goes_76 rfl ?_
        refine Jz_iald (r := ((-2147483648), 2147483647)) jEq.rf dX7_goes_77 ha_RW rfl hv_RW (by omega) (by omega) (fun y77 hf77 hl77 hh77 => ?_)
        dsimp only at hl77 hh77
        clear hl77 hh77
        have he77 : jEq y77.toInt (y52.toInt) := by rw [← hf77, hf52]; exact jEq.rf
        refine J_aload_n dX7_goes_78 rfl ?_
        refine J_get jf_X7_22 dX7_goes_79 hO_a0 hF_px ?_
        refine J_iload_n dX7_goes_82 rfl ?_
        refine Jz_iald (r := ((-2147483648), 2147483647)) jEq.rf dX7_goes_83 hA57 rfl hv57 (by omega) (by omega) (fun y83 hf83 hl83 hh83 => ?_)
        dsimp only at hl83 hh83
        clear hl83 hh83
        have e83 : y83 = y45 := by rw [← hf83, ← hf45]; exact ho57 _ (by omega)
        have hb83 : y83.toInt = y45.toInt := by rw [e83]
        refine J_aload_n dX7_goes_84 rfl ?_
        refine J_get jf_X7_25 dX7_goes_85 hO_a0 hF_py ?_
        refine J_iload_n dX7_goes_88 rfl ?_
        refine Jz_iald (r := ((-2147483648), 2147483647)) jEq.rf dX7_goes_89 hAF19n25 rfl hvF19n25 (by omega) (by omega) (fun y89 hf89 hl89 hh89 => ?_)
        dsimp only at hl89 hh89
        clear hl89 hh89
        have he89 : jEq y89.toInt (y70.toInt) := by rw [← hf89, hf70]; exact jEq.rf
        refine Jz_iadd jEq.rf he89 dX7_goes_90 (by omega) (by omega) (fun y90 he90 => ?_)
        refine J_callS3 moX7_stepY jw_ml_X7_115 jw_st_X7_stepY dX7_goes_91 (w_X7_stepY_z (d - 1) _ x1 y77 y90 (by omega)   (by omega) (by omega)) (by omega) (Nat.zero_le _) (Nat.zero_le _) (Nat.le_of_ble_eq_true rfl) (fun r91 V91 h91 => ?_)
        obtain ⟨⟨y91, rfl, hl91, hh91, hP91_0⟩, hE91⟩ := h91
        have hE91 := hE91.symm
        subst hE91
        try simp only [he77.eq, he90.eq] at hP91_0
        have hz91 : jEq y91.toInt (jsy (x1.toInt) (y52.toInt) (y83.toInt + y70.toInt)) := hP91_0
        simp only [hP91_0] at hl91 hh91
        clear hP91_0
        have hby := jsy_b x1.toInt y52.toInt (y83.toInt + y70.toInt)
        refine Jz_iadd jEq.rf hz91 dX7_goes_94 (by omega) (by omega) (fun y94 he94 => ?_)
        refine Jz_iast (r := ((-2147483648), 2147483647)) he64 he94 hW id dX7_goes_95 hAF19n25 rfl rfl (by omega) (by omega) (by omega) (by omega) (fun V95 G95 hW hx95 hA95 hp95 ho95 => ?_)
        obtain ⟨hN95, hv95⟩ := WT_rngI (r := ((-2147483648), 2147483647)) hW id rfl hA95
        clear hN95
        have he := he.trans (hx95.sub (jsub_of rfl))
        have ha0 := ha0.mono hx95.1
        have hb_rw := hb_rw.mono hx95.1
        have hb_px := hb_px.mono hx95.1
        have hb_py := hb_py.mono hx95.1
        have hb_pz := hb_pz.mono hx95.1
        have hO_a0 := hx95.2 _ _ hO_a0 (jnot_of rfl)
        have hK_a0 := hK_a0.mono hx95.1
        have hAF20n25 := hx95.2 _ _ hAF20n25 (jnot_of rfl)
        have ha_RW := hx95.2 _ _ ha_RW (jnot_of rfl)
        have hA57 := hx95.2 _ _ hA57 (jnot_of rfl)
        refine J_aload_n dX7_goes_96 rfl ?_
        refine J_get jf_X7_28 dX7_goes_97 hO_a0 hF_pz ?_
        refine J_iload_n dX7_goes_100 rfl ?_
        refine Jz_iconst 1 dX7_goes_101 (by decide) (fun y101 he101 => ?_)
        refine Jz_iadd jEq.rf he101 dX7_goes_102 (by omega) (by omega) (fun y102 he102 => ?_)
        refine J_aload_n dX7_goes_103 rfl ?_
        refine J_get jf_X7_28 dX7_goes_104 hO_a0 hF_pz ?_
        refine J_iload_n dX7_goes_107 rfl ?_
        refine Jz_iald (r := ((-2147483648), 2147483647)) jEq.rf dX7_goes_108 hAF20n25 rfl hvF20n25 (by omega) (by omega) (fun y108 hf108 hl108 hh108 => ?_)
        dsimp only at hl108 hh108
        clear hl108 hh108
        rw [hf108] at hb0
        refine J_iload_n dX7_goes_109 rfl ?_
        refine J_aload_n dX7_goes_110 rfl ?_
        refine J_get jf_X7_19 dX7_goes_111 hO_a0 hF_rw ?_
        refine J_iload_n dX7_goes_114 rfl ?_
        refine Jz_iald (r := ((-2147483648), 2147483647)) jEq.rf dX7_goes_115 ha_RW rfl hv_RW (by omega) (by omega) (fun y115 hf115 hl115 hh115 => ?_)
        dsimp only at hl115 hh115
        clear hl115 hh115
        have he115 : jEq y115.toInt (y52.toInt) := by rw [← hf115, hf52]; exact jEq.rf
        refine J_callS2 moX7_stepZ jw_ml_X7_119 jw_st_X7_stepZ dX7_goes_116 (w_X7_stepZ_z (d - 1) _ x1 y115 (by omega)   (by omega) (by omega)) (by omega) (Nat.zero_le _) (Nat.zero_le _) (Nat.le_of_ble_eq_true rfl) (fun r116 V116 h116 => ?_)
        obtain ⟨⟨y116, rfl, hl116, hh116, hP116_0⟩, hE116⟩ := h116
        have hE116 := hE116.symm
        subst hE116
        try simp only [he115.eq] at hP116_0
        have hz116 : jEq y116.toInt (jsz (x1.toInt) (y52.toInt)) := hP116_0
        simp only [hP116_0] at hl116 hh116
        clear hP116_0
        have hbz := jsz_b x1.toInt y52.toInt
        refine Jz_iadd jEq.rf hz116 dX7_goes_119 (by omega) (by omega) (fun y119 he119 => ?_)
        refine Jz_iast (r := ((-2147483648), 2147483647)) he102 he119 hW id dX7_goes_120 hAF20n25 rfl rfl (by omega) (by omega) (by omega) (by omega) (fun V120 G120 hW hx120 hA120 hp120 ho120 => ?_)
        obtain ⟨hN120, hv120⟩ := WT_rngI (r := ((-2147483648), 2147483647)) hW id rfl hA120
        clear hN120
        have he := he.trans (hx120.sub (jsub_of rfl))
        have ha0 := ha0.mono hx120.1
        have hb_rw := hb_rw.mono hx120.1
        have hb_px := hb_px.mono hx120.1
        have hb_py := hb_py.mono hx120.1
        have hb_pz := hb_pz.mono hx120.1
        have hO_a0 := hx120.2 _ _ hO_a0 (jnot_of rfl)
        have hK_a0 := hK_a0.mono hx120.1
        have ha_RW := hx120.2 _ _ ha_RW (jnot_of rfl)
        have hA57 := hx120.2 _ _ hA57 (jnot_of rfl)
        have hA95 := hx120.2 _ _ hA95 (jnot_of rfl)
        have hjr2 : jrv x1.toInt (fun q => (RW q).toInt) (i3n25.toInt.toNat + 1) G57 G95 G120 := hjr.lay (by have e : i3n25.toInt.toNat + 1 = (i3n25.toInt + 1).toNat := (by omega); rw [e, hp57, he56.eq, hf45]; show _ = _ + jsx x1.toInt (RW i3n25.toInt.toNat).toInt; rw [hf52]) (by have e : i3n25.toInt.toNat + 1 = (i3n25.toInt + 1).toNat := (by omega); rw [e, hp95, he94.eq, hf70, hf45, e83]; show _ = _ + jsy x1.toInt (RW i3n25.toInt.toNat).toInt _; rw [hf52]) (by have e : i3n25.toInt.toNat + 1 = (i3n25.toInt + 1).toNat := (by omega); rw [e, hp120, he119.eq, hf108]; show _ = _ + jsz x1.toInt (RW i3n25.toInt.toNat).toInt; rw [hf52]) (fun i hi => ho57 i (by omega)) (fun i hi => ho95 i (by omega)) (fun i hi => ho120 i (by omega))
        refine Jz_iconst 0 dX7_goes_121 (by decide) (fun y121 he121 => ?_)
        refine J_istore dX7_goes_122 rfl (by decide) ?_
        have L124 : ∀ (N : Nat) (i2n124 : Int32) (i4n124 : Int32), (0 ≤ i4n124.toInt ∧ i4n124.toInt ≤ i3n25.toInt + 1) → ((i2n124.toInt = 1 ∧ jav x1.toInt (fun q => (RW q).toInt) i3n25.toInt.toNat ∧ ∀ j : Nat, (j : Int) < i4n124.toInt → ¬ ((G57 j).toInt = (G57 (i3n25.toInt.toNat + 1)).toInt ∧ (G95 j).toInt = (G95 (i3n25.toInt.toNat + 1)).toInt ∧ (G120 j).toInt = (G120 (i3n25.toInt.toNat + 1)).toInt)) ∨ (i2n124.toInt = 0 ∧ ¬ (jav x1.toInt (fun q => (RW q).toInt) i3n25.toInt.toNat ∧ ∀ j : Nat, (j : Int) ≤ i3n25.toInt → ¬ ((G57 j).toInt = (G57 (i3n25.toInt.toNat + 1)).toInt ∧ (G95 j).toInt = (G95 (i3n25.toInt.toNat + 1)).toInt ∧ (G120 j).toInt = (G120 (i3n25.toInt.toNat + 1)).toInt)))) → (300 - i4n124.toInt).toNat < N → J tS mX7_goes d 124 [some (.ref a0), some (.int x1), some (.int i2n124), some (.int i3n25), some (.int i4n124)] [] V120 0 0 (fun r V => (jPost [.inl 18, .inl 19, .inl 20] V0 (fun r _ => ∃ y : Int32, r = some (.int y) ∧ (0 ≤ y.toInt) ∧ (y.toInt ≤ 1) ∧ ((y.toInt = 1 ∧ jav x1.toInt (fun q => (RW q).toInt) n.toInt.toNat) ∨ (y.toInt = 0 ∧ ¬ jav x1.toInt (fun q => (RW q).toInt) n.toInt.toNat)))) r V ∧ (∃ X Y Z : Nat → Int32, V px = some (.inl (18, 121, .inl X)) ∧ V py = some (.inl (19, 121, .inl Y)) ∧ V pz = some (.inl (20, 121, .inl Z)) ∧ jrv x1.toInt (fun q => (RW q).toInt) n.toInt.toNat X Y Z)) := by
          intro N
          induction N with
          | zero => intro i2n124 i4n124  hi4 hin hm; exact absurd hm (Nat.not_lt_zero _)
          | succ N ih =>
            intro i2n124 i4n124  hi4 hin hm
            have ih124 := ih
            have hri4 := j_rng i4n124
            refine J_iload dX7_goes_124 rfl ?_
            refine J_iload_n dX7_goes_126 rfl ?_
            refine Jz_icmp_gt (tgt := 200) jEq.rf jEq.rf dX7_goes_127 (by decide) (fun c127 => ?_) (fun c127 => ?_)
            · refine Jz_iinc 1 dX7_goes_200 rfl rfl (by decide) jEq.rf (by decide) (by omega) (by omega) (fun y200 he200 => ?_)
              refine J_goto (tgt := 25) dX7_goes_203 (by decide) ?_
              refine J.mask [true, true, true, true, false] ?_
              exact ih25 _ i2n124 y200 G57 G95 G120 hW he ha0 hb_rw hb_px hb_py hb_pz hO_a0 hK_a0 hA57 hA95 hA120 ha_RW (by (try simp only [he200.eq, true_and, and_true]) <;> omega) (by rw [he200.eq, show (i3n25.toInt + 1).toNat = i3n25.toInt.toNat + 1 by omega]; exact hjr2) (by rw [he200.eq, show (i3n25.toInt + 1).toNat = i3n25.toInt.toNat + 1 by omega, hjr2.av]; exact hin.imp (fun q => ⟨q.1, q.2.1, fun j hj => q.2.2 j (by omega)⟩) (fun q => ⟨q.1, fun z => q.2 ⟨z.1, fun j hj => z.2 j (by omega)⟩⟩)) (by (try simp only [he200.eq, true_and, and_true]) <;> omega)
            · refine J_iload_n dX7_goes_130 rfl ?_
              refine Jz_if_eq (tgt := 200) jEq.rf dX7_goes_131 (by decide) (fun c131 => ?_) (fun c131 => ?_)
              · refine Jz_iinc 1 dX7_goes_200 rfl rfl (by decide) jEq.rf (by decide) (by omega) (by omega) (fun y200 he200 => ?_)
                refine J_goto (tgt := 25) dX7_goes_203 (by decide) ?_
                refine J.mask [true, true, true, true, false] ?_
                exact ih25 _ i2n124 y200 G57 G95 G120 hW he ha0 hb_rw hb_px hb_py hb_pz hO_a0 hK_a0 hA57 hA95 hA120 ha_RW (by (try simp only [he200.eq, true_and, and_true]) <;> omega) (by rw [he200.eq, show (i3n25.toInt + 1).toNat = i3n25.toInt.toNat + 1 by omega]; exact hjr2) (by rw [he200.eq, show (i3n25.toInt + 1).toNat = i3n25.toInt.toNat + 1 by omega, hjr2.av]; exact hin.imp (fun q => ⟨q.1, q.2.1, fun j hj => q.2.2 j (by omega)⟩) (fun q => ⟨q.1, fun z => q.2 ⟨z.1, fun j hj => z.2 j (by omega)⟩⟩)) (by (try simp only [he200.eq, true_and, and_true]) <;> omega)
              · refine J_aload_n dX7_goes_134 rfl ?_
                refine J_get jf_X7_22 dX7_goes_135 hO_a0 hF_px ?_
                refine J_iload dX7_goes_138 rfl ?_
                refine Jz_iald (r := ((-2147483648), 2147483647)) jEq.rf dX7_goes_140 hA57 rfl hv57 (by omega) (by omega) (fun y140 hf140 hl140 hh140 => ?_)
                dsimp only at hl140 hh140
                clear hl140 hh140
                refine J_aload_n dX7_goes_141 rfl ?_
                refine J_get jf_X7_22 dX7_goes_142 hO_a0 hF_px ?_
                refine J_iload_n dX7_goes_145 rfl ?_
                refine Jz_iconst 1 dX7_goes_146 (by decide) (fun y146 he146 => ?_)
                refine Jz_iadd jEq.rf he146 dX7_goes_147 (by omega) (by omega) (fun y147 he147 => ?_)
                refine Jz_iald (r := ((-2147483648), 2147483647)) he147 dX7_goes_148 hA57 rfl hv57 (by omega) (by omega) (fun y148 hf148 hl148 hh148 => ?_)
                dsimp only at hl148 hh148
                clear hl148 hh148
                have he148 : jEq y148.toInt (y45.toInt + (jsx (x1.toInt) (y52.toInt))) := by rw [← hf148, hp57]; exact he56
                refine Jz_icmp_ne (tgt := 188) jEq.rf he148 dX7_goes_149 (by decide) (fun c149 => ?_) (fun c149 => ?_)
                · refine Jz_iconst 1 dX7_goes_188 (by decide) (fun y188 he188 => ?_)
                  refine J_goto (tgt := 193) dX7_goes_189 (by decide) ?_
                  refine J_istore_n dX7_goes_193 rfl (by decide) ?_
                  refine Jz_iinc 1 dX7_goes_194 rfl rfl (by decide) jEq.rf (by decide) (by omega) (by omega) (fun y194 he194 => ?_)
                  refine J_goto (tgt := 124) dX7_goes_197 (by decide) ?_
                  refine J.mask [true, true, true, true, true] ?_
                  exact ih124  y188 y194  (by (try simp only [he188.eq, he194.eq, true_and, and_true]) <;> omega) (hin.elim (fun z => Or.inl ⟨by rw [he188.eq], z.2.1, fun j hj => by rw [he194.eq] at hj; by_cases h9 : (j : Int) = i4n124.toInt; (have e2 : j = i4n124.toInt.toNat := by omega); subst e2; (intro q; have q2 := q.1; have e : i3n25.toInt.toNat + 1 = (i3n25.toInt + 1).toNat := (by omega); rw [e, hf140, hf148] at q2; exact c149 (q2.trans he148.eq)); exact z.2.2 j (by omega)⟩) (fun z => absurd z.1 c131)) (by (try simp only [he188.eq, he194.eq, true_and, and_true]) <;> omega)
                · refine J_aload_n dX7_goes_152 rfl ?_
                  refine J_get jf_X7_25 dX7_goes_153 hO_a0 hF_py ?_
                  refine J_iload dX7_goes_156 rfl ?_
                  refine Jz_iald (r := ((-2147483648), 2147483647)) jEq.rf dX7_goes_158 hA95 rfl hv95 (by omega) (by omega) (fun y158 hf158 hl158 hh158 => ?_)
                  dsimp only at hl158 hh158
                  clear hl158 hh158
                  refine J_aload_n dX7_goes_159 rfl ?_
                  refine J_get jf_X7_25 dX7_goes_160 hO_a0 hF_py ?_
                  refine J_iload_n dX7_goes_163 rfl ?_
                  refine Jz_iconst 1 dX7_goes_164 (by decide) (fun y164 he164 => ?_)
                  refine Jz_iadd jEq.rf he164 dX7_goes_165 (by omega) (by omega) (fun y165 he165 => ?_)
                  refine Jz_iald (r := ((-2147483648), 2147483647)) he165 dX7_goes_166 hA95 rfl hv95 (by omega) (by omega) (fun y166 hf166 hl166 hh166 => ?_)
                  dsimp only at hl166 hh166
                  clear hl166 hh166
                  have he166 : jEq y166.toInt (y70.toInt + (jsy (x1.toInt) (y52.toInt) (y83.toInt + y70.toInt))) := by rw [← hf166, hp95]; exact he94
                  refine Jz_icmp_ne (tgt := 188) jEq.rf he166 dX7_goes_167 (by decide) (fun c167 => ?_) (fun c167 => ?_)
                  · refine Jz_iconst 1 dX7_goes_188 (by decide) (fun y188 he188 => ?_)
                    refine J_goto (tgt := 193) dX7_goes_189 (by decide) ?_
                    refine J_istore_n dX7_goes_193 rfl (by decide) ?_
                    refine Jz_iinc 1 dX7_goes_194 rfl rfl (by decide) jEq.rf (by decide) (by omega) (by omega) (fun y194 he194 => ?_)
                    refine J_goto (tgt := 124) dX7_goes_197 (by decide) ?_
                    refine J.mask [true, true, true, true, true] ?_
                    exact ih124  y188 y194  (by (try simp only [he188.eq, he194.eq, true_and, and_true]) <;> omega) (hin.elim (fun z => Or.inl ⟨by rw [he188.eq], z.2.1, fun j hj => by rw [he194.eq] at hj; by_cases h9 : (j : Int) = i4n124.toInt; (have e2 : j = i4n124.toInt.toNat := by omega); subst e2; (intro q; have q2 := q.2.1; have e : i3n25.toInt.toNat + 1 = (i3n25.toInt + 1).toNat := (by omega); rw [e, hf158, hf166] at q2; exact c167 (q2.trans he166.eq)); exact z.2.2 j (by omega)⟩) (fun z => absurd z.1 c131)) (by (try simp only [he188.eq, he194.eq, true_and, and_true]) <;> omega)
                  · refine J_aload_n dX7_goes_170 rfl ?_
                    refine J_get jf_X7_28 dX7_goes_171 hO_a0 hF_pz ?_
                    refine J_iload dX7_goes_174 rfl ?_
                    refine Jz_iald (r := ((-2147483648), 2147483647)) jEq.rf dX7_goes_176 hA120 rfl hv120 (by omega) (by omega) (fun y176 hf176 hl176 hh176 => ?_)
                    dsimp only at hl176 hh176
                    clear hl176 hh176
                    refine J_aload_n dX7_goes_177 rfl ?_
                    refine J_get jf_X7_28 dX7_goes_178 hO_a0 hF_pz ?_
                    refine J_iload_n dX7_goes_181 rfl ?_
                    refine Jz_iconst 1 dX7_goes_182 (by decide) (fun y182 he182 => ?_)
                    refine Jz_iadd jEq.rf he182 dX7_goes_183 (by omega) (by omega) (fun y183 he183 => ?_)
                    refine Jz_iald (r := ((-2147483648), 2147483647)) he183 dX7_goes_184 hA120 rfl hv120 (by omega) (by omega) (fun y184 hf184 hl184 hh184 => ?_)
                    dsimp only at hl184 hh184
                    clear hl184 hh184
                    have he184 : jEq y184.toInt (y108.toInt + (jsz (x1.toInt) (y52.toInt))) := by rw [← hf184, hp120]; exact he119
                    refine Jz_icmp_eq (tgt := 192) jEq.rf he184 dX7_goes_185 (by decide) (fun c185 => ?_) (fun c185 => ?_)
                    · refine Jz_iconst 0 dX7_goes_192 (by decide) (fun y192 he192 => ?_)
                      refine J_istore_n dX7_goes_193 rfl (by decide) ?_
                      refine Jz_iinc 1 dX7_goes_194 rfl rfl (by decide) jEq.rf (by decide) (by omega) (by omega) (fun y194 he194 => ?_)
                      refine J_goto (tgt := 124) dX7_goes_197 (by decide) ?_
                      refine J.mask [true, true, true, true, true] ?_
                      exact ih124  y192 y194  (by (try simp only [he192.eq, he194.eq, true_and, and_true]) <;> omega) (Or.inr ⟨by rw [he192.eq], fun hq => hq.2 i4n124.toInt.toNat (by omega) (by have e : i3n25.toInt.toNat + 1 = (i3n25.toInt + 1).toNat := (by omega); rw [e, hf140, hf148, hf158, hf166, hf176, hf184]; exact ⟨c149.trans he148.eq.symm, c167.trans he166.eq.symm, c185.trans he184.eq.symm⟩)⟩) (by (try simp only [he192.eq, he194.eq, true_and, and_true]) <;> omega)
                    · refine Jz_iconst 1 dX7_goes_188 (by decide) (fun y188 he188 => ?_)
                      refine J_goto (tgt := 193) dX7_goes_189 (by decide) ?_
                      refine J_istore_n dX7_goes_193 rfl (by decide) ?_
                      refine Jz_iinc 1 dX7_goes_194 rfl rfl (by decide) jEq.rf (by decide) (by omega) (by omega) (fun y194 he194 => ?_)
                      refine J_goto (tgt := 124) dX7_goes_197 (by decide) ?_
                      refine J.mask [true, true, true, true, true] ?_
                      exact ih124  y188 y194  (by (try simp only [he188.eq, he194.eq, true_and, and_true]) <;> omega) (hin.elim (fun z => Or.inl ⟨by rw [he188.eq], z.2.1, fun j hj => by rw [he194.eq] at hj; by_cases h9 : (j : Int) = i4n124.toInt; (have e2 : j = i4n124.toInt.toNat := by omega); subst e2; (intro q; have q2 := q.2.2; have e : i3n25.toInt.toNat + 1 = (i3n25.toInt + 1).toNat := (by omega); rw [e, hf176, hf184] at q2; exact c185 (q2.trans he184.eq)); exact z.2.2 j (by omega)⟩) (fun z => absurd z.1 c131)) (by (try simp only [he188.eq, he194.eq, true_and, and_true]) <;> omega)
        refine J.mask [true, true, true, true, true] ?_
        exact L124 _  i2n25 y121    (by (try simp only [he121.eq, true_and, and_true]) <;> omega) (hon.imp (fun q => ⟨q.1, q.2, fun j hj => by rw [he121.eq] at hj; omega⟩) (fun q => ⟨q.1, fun z => q.2 z.1⟩)) (Nat.lt_succ_self _)
  refine J.mask [true, true, true, true, false] ?_
  exact L25 _ _ y0 y23 G8 G15 G22 hW he ha0 hb_rw hb_px hb_py hb_pz hO_a0 hK_a0 hA8 hA15 hA22 ha_RW (by (try simp only [he0.eq, he23.eq, true_and, and_true]) <;> omega) (fun i hi => by rw [he23.eq] at hi; rw [show i = Int.toNat 0 by omega, hp8, hp15, hp22, he7.eq, he14.eq, he21.eq]; exact ⟨rfl, rfl, rfl⟩) (Or.inl ⟨he0.eq, by rw [he23.eq]; exact jav.zero⟩) (Nat.lt_succ_self _)
set_option maxRecDepth 100000 in
set_option maxHeartbeats 8000000 in
theorem w_X7_isWalk_z {tS : jTS} (d : Nat) (V0 : jH) (a0 : Nat) (x1 : Int32) (v0 : Int32) (hd : 1 ≤ d) (hW : WT V0) (ha0 : jis V0 (.inr 5) a0) (hf_v0 : jfI V0 a0 5 0 v0) : jTot tS mX7_isWalk d [.ref a0, .int x1] V0 0 0 (fun r V => (fun r _ => ∃ y : Int32, r = some (.int y) ∧ (0 ≤ y.toInt) ∧ (y.toInt ≤ 1) ∧ ((y.toInt = 1 ∧ 0 ≤ x1.toInt ∧ x1.toInt < v0.toInt) ∨ (y.toInt = 0 ∧ ¬ (0 ≤ x1.toInt ∧ x1.toInt < v0.toInt)))) r V ∧ V = V0) := by
  refine jTot.of_J [some (.ref a0), some (.int x1)] moX7_isWalk (Nat.le_of_ble_eq_true rfl) rfl ?_
  have hrx1 := j_rng x1
  have he : jeff [] V0 V0 := jeff.refl _ _
  obtain ⟨fs_a0, hO_a0, hK_a0⟩ := WT_obj hW id ha0
  have hF_v0 := hf_v0.get hO_a0
  have hrv0 : 0 ≤ v0.toInt ∧ v0.toInt ≤ 16 := jok_rngI hK_a0 rfl hF_v0
  refine J_iload_n dX7_isWalk_0 rfl ?_
  refine Jz_iconst 0 dX7_isWalk_1 (by decide) (fun y1 he1 => ?_)
  refine J_aload_n dX7_isWalk_2 rfl ?_
  refine J_get jf_X7_102 dX7_isWalk_3 hO_a0 hF_v0 ?_
  refine Jz_iconst 1 dX7_isWalk_6 (by decide) (fun y6 he6 => ?_)
  refine Jz_isub jEq.rf he6 dX7_isWalk_7 (by omega) (by omega) (fun y7 he7 => ?_)
  refine J_callS3 moX7_in jw_ml_X7_105 jw_st_X7_in dX7_isWalk_8 (w_X7_in (d - 1) _ x1 y1 y7 (by omega)   ) (by omega) (Nat.zero_le _) (Nat.zero_le _) (Nat.le_of_ble_eq_true rfl) (fun r8 V8 h8 => ?_)
  obtain ⟨⟨y8, rfl, hl8, hh8, hI8_0, hI8_1⟩, hE8⟩ := h8
  have hE8 := hE8.symm
  subst hE8
  exact J_ret (r := some (.int _)) dX7_isWalk_11 ⟨rfl, _, rfl, (nar_b (by omega) (by omega))⟩ (⟨⟨_, rfl, (by omega), (by omega), (by
    rcases (show y8.toInt = 1 ∨ y8.toInt = 0 by omega) with h | h
    · have q := hI8_0.of h
      (try simp only [he1.eq, he7.eq] at q)
      omega
    · have q := hI8_1.of h
      (try simp only [he1.eq, he7.eq] at q)
      omega)⟩, rfl⟩)
set_option maxRecDepth 100000 in
set_option maxHeartbeats 8000000 in
theorem w_X7_step_bad {tS : jTS} (d : Nat) (V0 : jH) (a0 : Nat) (x1 : Int32) (x2 : Int32) (v0 : Int32) (gr : Nat) (mn : Nat) (sp : Nat) (rw : Nat) (px : Nat) (py : Nat) (pz : Nat) (GA : Nat → Int32) (MN : Nat → Int32) (SP : Nat → Int32) (RW : Nat → Int32) (PX : Nat → Int32) (PY : Nat → Int32) (PZ : Nat → Int32) (hd : 3 ≤ d) (hW : WT V0) (ha0 : jis V0 (.inr 5) a0) (hf_v0 : jfI V0 a0 5 0 v0) (hr_gr : jfR V0 a0 5 1 gr) (hr_mn : jfR V0 a0 5 2 mn) (hr_sp : jfR V0 a0 5 3 sp) (hr_rw : jfR V0 a0 5 4 rw) (hr_px : jfR V0 a0 5 6 px) (hr_py : jfR V0 a0 5 7 py) (hr_pz : jfR V0 a0 5 8 pz) (ha_GA : V0 gr = some (.inl (14, 16, .inl GA))) (ha_MN : V0 mn = some (.inl (15, 16, .inl MN))) (ha_SP : V0 sp = some (.inl (16, 960, .inl SP))) (ha_RW : V0 rw = some (.inl (17, 120, .inl RW))) (ha_PX : V0 px = some (.inl (18, 121, .inl PX))) (ha_PY : V0 py = some (.inl (19, 121, .inl PY))) (ha_PZ : V0 pz = some (.inl (20, 121, .inl PZ))) (hp0 : ¬ (0 ≤ x1.toInt ∧ x1.toInt < v0.toInt ∧ 0 ≤ x2.toInt ∧ x2.toInt < jdir (GA x1.toInt.toNat).toInt)) : jTot tS mX7_step d [.ref a0, .int x1, .int x2] V0 0 0 (fun r V => (fun r _ => ∃ y : Int32, r = some (.int y) ∧ ((-2147483648) ≤ y.toInt) ∧ (y.toInt ≤ 2147483647) ∧ (y.toInt = -2)) r V ∧ V = V0) := by
  refine jTot.of_J [some (.ref a0), some (.int x1), some (.int x2)] moX7_step (Nat.le_of_ble_eq_true rfl) rfl ?_
  have hrx1 := j_rng x1
  have hrx2 := j_rng x2
  have he : jeff [] V0 V0 := jeff.refl _ _
  obtain ⟨fs_a0, hO_a0, hK_a0⟩ := WT_obj hW id ha0
  have hF_v0 := hf_v0.get hO_a0
  have hrv0 : 0 ≤ v0.toInt ∧ v0.toInt ≤ 16 := jok_rngI hK_a0 rfl hF_v0
  have hF_gr := hr_gr.get hO_a0
  obtain ⟨w_gr, hFq_gr, b_gr, hbq_gr, hb_gr⟩ := hK_a0.2 1 (.inr (some (.inl 14))) rfl
  cases hF_gr.symm.trans (hFq_gr.trans (congrArg some hbq_gr))
  have hF_mn := hr_mn.get hO_a0
  obtain ⟨w_mn, hFq_mn, b_mn, hbq_mn, hb_mn⟩ := hK_a0.2 2 (.inr (some (.inl 15))) rfl
  cases hF_mn.symm.trans (hFq_mn.trans (congrArg some hbq_mn))
  have hF_sp := hr_sp.get hO_a0
  obtain ⟨w_sp, hFq_sp, b_sp, hbq_sp, hb_sp⟩ := hK_a0.2 3 (.inr (some (.inl 16))) rfl
  cases hF_sp.symm.trans (hFq_sp.trans (congrArg some hbq_sp))
  have hF_rw := hr_rw.get hO_a0
  obtain ⟨w_rw, hFq_rw, b_rw, hbq_rw, hb_rw⟩ := hK_a0.2 4 (.inr (some (.inl 17))) rfl
  cases hF_rw.symm.trans (hFq_rw.trans (congrArg some hbq_rw))
  have hF_px := hr_px.get hO_a0
  obtain ⟨w_px, hFq_px, b_px, hbq_px, hb_px⟩ := hK_a0.2 6 (.inr (some (.inl 18))) rfl
  cases hF_px.symm.trans (hFq_px.trans (congrArg some hbq_px))
  have hF_py := hr_py.get hO_a0
  obtain ⟨w_py, hFq_py, b_py, hbq_py, hb_py⟩ := hK_a0.2 7 (.inr (some (.inl 19))) rfl
  cases hF_py.symm.trans (hFq_py.trans (congrArg some hbq_py))
  have hF_pz := hr_pz.get hO_a0
  obtain ⟨w_pz, hFq_pz, b_pz, hbq_pz, hb_pz⟩ := hK_a0.2 8 (.inr (some (.inl 20))) rfl
  cases hF_pz.symm.trans (hFq_pz.trans (congrArg some hbq_pz))
  obtain ⟨hN_GA, hv_GA⟩ := WT_rngI (r := (0, 3)) hW id rfl ha_GA
  clear hN_GA
  obtain ⟨hN_MN, hv_MN⟩ := WT_rngI (r := (0, 60)) hW id rfl ha_MN
  clear hN_MN
  obtain ⟨hN_SP, hv_SP⟩ := WT_rngI (r := ((-2147483648), 2147483647)) hW id rfl ha_SP
  clear hN_SP
  obtain ⟨hN_RW, hv_RW⟩ := WT_rngI (r := ((-2147483648), 2147483647)) hW id rfl ha_RW
  clear hN_RW
  obtain ⟨hN_PX, hv_PX⟩ := WT_rngI (r := ((-2147483648), 2147483647)) hW id rfl ha_PX
  clear hN_PX
  obtain ⟨hN_PY, hv_PY⟩ := WT_rngI (r := ((-2147483648), 2147483647)) hW id rfl ha_PY
  clear hN_PY
  obtain ⟨hN_PZ, hv_PZ⟩ := WT_rngI (r := ((-2147483648), 2147483647)) hW id rfl ha_PZ
  clear hN_PZ
  refine J_aload_n dX7_step_0 rfl ?_
  refine J_iload_n dX7_step_1 rfl ?_
  refine Jw_callV1 (q9 := (RX7, TX7, 34)) moX7_isWalk jw_ml_X7_130 jw_im_X7_isWalk jw_se_X7_isWalk ha0 rfl rfl dX7_step_2 (w_X7_isWalk_z (d - 1) _ a0 x1 v0 (by omega) hW  ha0 ⟨_, hO_a0, hF_v0⟩) (by omega) (Nat.zero_le _) (Nat.zero_le _) (Nat.le_of_ble_eq_true rfl) (fun r2 V2 h2 => ?_)
  obtain ⟨⟨y2, rfl, hl2, hh2, hP2_0⟩, hE2⟩ := h2
  have hE2 := hE2.symm
  subst hE2
  refine Jz_if_eq (tgt := 27) jEq.rf dX7_step_5 (by decide) (fun c5 => ?_) (fun c5 => ?_)
  · refine Jz_bipush (-2) dX7_step_27 (by decide) (fun y27 he27 => ?_)
    exact J_ret (r := some (.int _)) dX7_step_29 ⟨rfl, _, rfl, rfl⟩ (⟨⟨_, rfl, (j_rng _).1, (j_rng _).2, (by (try simp only [he27.eq, true_and, and_true]) <;> omega)⟩, rfl⟩)
  · refine J_iload_n dX7_step_8 rfl ?_
    refine Jz_iconst 0 dX7_step_9 (by decide) (fun y9 he9 => ?_)
    refine J_aload_n dX7_step_10 rfl ?_
    refine J_get jf_X7_7 dX7_step_11 hO_a0 hF_gr ?_
    refine J_iload_n dX7_step_14 rfl ?_
    refine Jz_iald (r := (0, 3)) jEq.rf dX7_step_15 ha_GA rfl hv_GA (by omega) (by omega) (fun y15 hf15 hl15 hh15 => ?_)
    dsimp only at hl15 hh15
    have hq15 : (GA x1.toInt.toNat).toInt = y15.toInt := by rw [hf15]
    rw [hq15] at hp0
    refine J_callS1 moX7_directions jw_ml_X7_133 jw_st_X7_directions dX7_step_16 (w_X7_directions (d - 1) _ y15 (by omega)   ) (by omega) (Nat.zero_le _) (Nat.zero_le _) (Nat.le_of_ble_eq_true rfl) (fun r16 V16 h16 => ?_)
    obtain ⟨⟨y16, rfl, hl16, hh16, hP16_0⟩, hE16⟩ := h16
    have hE16 := hE16.symm
    subst hE16
    have hz16 : jEq y16.toInt (jdir (y15.toInt)) := hP16_0
    simp only [hP16_0] at hl16 hh16
    clear hP16_0
    refine Jz_iconst 1 dX7_step_19 (by decide) (fun y19 he19 => ?_)
    refine Jz_isub hz16 he19 dX7_step_20 (by omega) (by omega) (fun y20 he20 => ?_)
    refine J_callS3 moX7_in jw_ml_X7_105 jw_st_X7_in dX7_step_21 (w_X7_in (d - 1) _ x2 y9 y20 (by omega)   ) (by omega) (Nat.zero_le _) (Nat.zero_le _) (Nat.le_of_ble_eq_true rfl) (fun r21 V21 h21 => ?_)
    obtain ⟨⟨y21, rfl, hl21, hh21, hI21_0, hI21_1⟩, hE21⟩ := h21
    have hE21 := hE21.symm
    subst hE21
    refine Jz_if_ne (tgt := 30) jEq.rf dX7_step_24 (by decide) (fun c24 => ?_) (fun c24 => ?_)
    · have q24_0 := hI21_0.of (by omega)
      try simp only [he9.eq, he20.eq] at q24_0
      exact False.elim (by omega)
    · have q24_1 := hI21_1.of (by omega)
      try simp only [he9.eq, he20.eq] at q24_1
      refine Jz_bipush (-2) dX7_step_27 (by decide) (fun y27 he27 => ?_)
      exact J_ret (r := some (.int _)) dX7_step_29 ⟨rfl, _, rfl, rfl⟩ (⟨⟨_, rfl, (j_rng _).1, (j_rng _).2, (by (try simp only [he27.eq, true_and, and_true]) <;> omega)⟩, rfl⟩)
set_option maxRecDepth 100000 in
set_option maxHeartbeats 8000000 in
theorem w_X7_back_bad {tS : jTS} (d : Nat) (V0 : jH) (a0 : Nat) (x1 : Int32) (x2 : Int32) (v0 : Int32) (gr : Nat) (mn : Nat) (sp : Nat) (rw : Nat) (px : Nat) (py : Nat) (pz : Nat) (GA : Nat → Int32) (MN : Nat → Int32) (SP : Nat → Int32) (RW : Nat → Int32) (PX : Nat → Int32) (PY : Nat → Int32) (PZ : Nat → Int32) (hd : 2 ≤ d) (hW : WT V0) (ha0 : jis V0 (.inr 5) a0) (hf_v0 : jfI V0 a0 5 0 v0) (hr_gr : jfR V0 a0 5 1 gr) (hr_mn : jfR V0 a0 5 2 mn) (hr_sp : jfR V0 a0 5 3 sp) (hr_rw : jfR V0 a0 5 4 rw) (hr_px : jfR V0 a0 5 6 px) (hr_py : jfR V0 a0 5 7 py) (hr_pz : jfR V0 a0 5 8 pz) (ha_GA : V0 gr = some (.inl (14, 16, .inl GA))) (ha_MN : V0 mn = some (.inl (15, 16, .inl MN))) (ha_SP : V0 sp = some (.inl (16, 960, .inl SP))) (ha_RW : V0 rw = some (.inl (17, 120, .inl RW))) (ha_PX : V0 px = some (.inl (18, 121, .inl PX))) (ha_PY : V0 py = some (.inl (19, 121, .inl PY))) (ha_PZ : V0 pz = some (.inl (20, 121, .inl PZ))) (hp0 : ¬ (0 ≤ x1.toInt ∧ x1.toInt < v0.toInt ∧ 0 ≤ x2.toInt ∧ x2.toInt ≤ (MN x1.toInt.toNat).toInt)) : jTot tS mX7_back d [.ref a0, .int x1, .int x2] V0 0 0 (fun r V => (fun r _ => ∃ y : Int32, r = some (.int y) ∧ ((-2147483648) ≤ y.toInt) ∧ (y.toInt ≤ 2147483647) ∧ (y.toInt = -2)) r V ∧ V = V0) := by
  refine jTot.of_J [some (.ref a0), some (.int x1), some (.int x2)] moX7_back (Nat.le_of_ble_eq_true rfl) rfl ?_
  have hrx1 := j_rng x1
  have hrx2 := j_rng x2
  have he : jeff [] V0 V0 := jeff.refl _ _
  obtain ⟨fs_a0, hO_a0, hK_a0⟩ := WT_obj hW id ha0
  have hF_v0 := hf_v0.get hO_a0
  have hrv0 : 0 ≤ v0.toInt ∧ v0.toInt ≤ 16 := jok_rngI hK_a0 rfl hF_v0
  have hF_gr := hr_gr.get hO_a0
  obtain ⟨w_gr, hFq_gr, b_gr, hbq_gr, hb_gr⟩ := hK_a0.2 1 (.inr (some (.inl 14))) rfl
  cases hF_gr.symm.trans (hFq_gr.trans (congrArg some hbq_gr))
  have hF_mn := hr_mn.get hO_a0
  obtain ⟨w_mn, hFq_mn, b_mn, hbq_mn, hb_mn⟩ := hK_a0.2 2 (.inr (some (.inl 15))) rfl
  cases hF_mn.symm.trans (hFq_mn.trans (congrArg some hbq_mn))
  have hF_sp := hr_sp.get hO_a0
  obtain ⟨w_sp, hFq_sp, b_sp, hbq_sp, hb_sp⟩ := hK_a0.2 3 (.inr (some (.inl 16))) rfl
  cases hF_sp.symm.trans (hFq_sp.trans (congrArg some hbq_sp))
  have hF_rw := hr_rw.get hO_a0
  obtain ⟨w_rw, hFq_rw, b_rw, hbq_rw, hb_rw⟩ := hK_a0.2 4 (.inr (some (.inl 17))) rfl
  cases hF_rw.symm.trans (hFq_rw.trans (congrArg some hbq_rw))
  have hF_px := hr_px.get hO_a0
  obtain ⟨w_px, hFq_px, b_px, hbq_px, hb_px⟩ := hK_a0.2 6 (.inr (some (.inl 18))) rfl
  cases hF_px.symm.trans (hFq_px.trans (congrArg some hbq_px))
  have hF_py := hr_py.get hO_a0
  obtain ⟨w_py, hFq_py, b_py, hbq_py, hb_py⟩ := hK_a0.2 7 (.inr (some (.inl 19))) rfl
  cases hF_py.symm.trans (hFq_py.trans (congrArg some hbq_py))
  have hF_pz := hr_pz.get hO_a0
  obtain ⟨w_pz, hFq_pz, b_pz, hbq_pz, hb_pz⟩ := hK_a0.2 8 (.inr (some (.inl 20))) rfl
  cases hF_pz.symm.trans (hFq_pz.trans (congrArg some hbq_pz))
  obtain ⟨hN_GA, hv_GA⟩ := WT_rngI (r := (0, 3)) hW id rfl ha_GA
  clear hN_GA
  obtain ⟨hN_MN, hv_MN⟩ := WT_rngI (r := (0, 60)) hW id rfl ha_MN
  clear hN_MN
  obtain ⟨hN_SP, hv_SP⟩ := WT_rngI (r := ((-2147483648), 2147483647)) hW id rfl ha_SP
  clear hN_SP
  obtain ⟨hN_RW, hv_RW⟩ := WT_rngI (r := ((-2147483648), 2147483647)) hW id rfl ha_RW
  clear hN_RW
  obtain ⟨hN_PX, hv_PX⟩ := WT_rngI (r := ((-2147483648), 2147483647)) hW id rfl ha_PX
  clear hN_PX
  obtain ⟨hN_PY, hv_PY⟩ := WT_rngI (r := ((-2147483648), 2147483647)) hW id rfl ha_PY
  clear hN_PY
  obtain ⟨hN_PZ, hv_PZ⟩ := WT_rngI (r := ((-2147483648), 2147483647)) hW id rfl ha_PZ
  clear hN_PZ
  refine J_aload_n dX7_back_0 rfl ?_
  refine J_iload_n dX7_back_1 rfl ?_
  refine Jw_callV1 (q9 := (RX7, TX7, 34)) moX7_isWalk jw_ml_X7_130 jw_im_X7_isWalk jw_se_X7_isWalk ha0 rfl rfl dX7_back_2 (w_X7_isWalk_z (d - 1) _ a0 x1 v0 (by omega) hW  ha0 ⟨_, hO_a0, hF_v0⟩) (by omega) (Nat.zero_le _) (Nat.zero_le _) (Nat.le_of_ble_eq_true rfl) (fun r2 V2 h2 => ?_)
  obtain ⟨⟨y2, rfl, hl2, hh2, hP2_0⟩, hE2⟩ := h2
  have hE2 := hE2.symm
  subst hE2
  refine Jz_if_eq (tgt := 22) jEq.rf dX7_back_5 (by decide) (fun c5 => ?_) (fun c5 => ?_)
  · refine Jz_bipush (-2) dX7_back_22 (by decide) (fun y22 he22 => ?_)
    exact J_ret (r := some (.int _)) dX7_back_24 ⟨rfl, _, rfl, rfl⟩ (⟨⟨_, rfl, (j_rng _).1, (j_rng _).2, (by (try simp only [he22.eq, true_and, and_true]) <;> omega)⟩, rfl⟩)
  · refine J_iload_n dX7_back_8 rfl ?_
    refine Jz_iconst 0 dX7_back_9 (by decide) (fun y9 he9 => ?_)
    refine J_aload_n dX7_back_10 rfl ?_
    refine J_get jf_X7_13 dX7_back_11 hO_a0 hF_mn ?_
    refine J_iload_n dX7_back_14 rfl ?_
    refine Jz_iald (r := (0, 60)) jEq.rf dX7_back_15 ha_MN rfl hv_MN (by omega) (by omega) (fun y15 hf15 hl15 hh15 => ?_)
    dsimp only at hl15 hh15
    have hq15 : (MN x1.toInt.toNat).toInt = y15.toInt := by rw [hf15]
    refine J_callS3 moX7_in jw_ml_X7_105 jw_st_X7_in dX7_back_16 (w_X7_in (d - 1) _ x2 y9 y15 (by omega)   ) (by omega) (Nat.zero_le _) (Nat.zero_le _) (Nat.le_of_ble_eq_true rfl) (fun r16 V16 h16 => ?_)
    obtain ⟨⟨y16, rfl, hl16, hh16, hI16_0, hI16_1⟩, hE16⟩ := h16
    have hE16 := hE16.symm
    subst hE16
    refine Jz_if_ne (tgt := 25) jEq.rf dX7_back_19 (by decide) (fun c19 => ?_) (fun c19 => ?_)
    · have q19_0 := hI16_0.of (by omega)
      try simp only [he9.eq] at q19_0
      exact False.elim (by omega)
    · have q19_1 := hI16_1.of (by omega)
      try simp only [he9.eq] at q19_1
      refine Jz_bipush (-2) dX7_back_22 (by decide) (fun y22 he22 => ?_)
      exact J_ret (r := some (.int _)) dX7_back_24 ⟨rfl, _, rfl, rfl⟩ (⟨⟨_, rfl, (j_rng _).1, (j_rng _).2, (by (try simp only [he22.eq, true_and, and_true]) <;> omega)⟩, rfl⟩)
set_option maxRecDepth 100000 in
set_option maxHeartbeats 8000000 in
theorem w_X7_pivot_bad {tS : jTS} (d : Nat) (V0 : jH) (a0 : Nat) (x1 : Int32) (x2 : Int32) (x3 : Int32) (v0 : Int32) (gr : Nat) (mn : Nat) (sp : Nat) (rw : Nat) (px : Nat) (py : Nat) (pz : Nat) (GA : Nat → Int32) (MN : Nat → Int32) (SP : Nat → Int32) (RW : Nat → Int32) (PX : Nat → Int32) (PY : Nat → Int32) (PZ : Nat → Int32) (hd : 3 ≤ d) (hW : WT V0) (ha0 : jis V0 (.inr 5) a0) (hf_v0 : jfI V0 a0 5 0 v0) (hr_gr : jfR V0 a0 5 1 gr) (hr_mn : jfR V0 a0 5 2 mn) (hr_sp : jfR V0 a0 5 3 sp) (hr_rw : jfR V0 a0 5 4 rw) (hr_px : jfR V0 a0 5 6 px) (hr_py : jfR V0 a0 5 7 py) (hr_pz : jfR V0 a0 5 8 pz) (ha_GA : V0 gr = some (.inl (14, 16, .inl GA))) (ha_MN : V0 mn = some (.inl (15, 16, .inl MN))) (ha_SP : V0 sp = some (.inl (16, 960, .inl SP))) (ha_RW : V0 rw = some (.inl (17, 120, .inl RW))) (ha_PX : V0 px = some (.inl (18, 121, .inl PX))) (ha_PY : V0 py = some (.inl (19, 121, .inl PY))) (ha_PZ : V0 pz = some (.inl (20, 121, .inl PZ))) (hp0 : ¬ (0 ≤ x1.toInt ∧ x1.toInt < v0.toInt ∧ 0 ≤ x2.toInt ∧ x2.toInt ≤ (MN x1.toInt.toNat).toInt ∧ 0 ≤ x3.toInt ∧ x3.toInt < jtur (GA x1.toInt.toNat).toInt)) : jTot tS mX7_pivot d [.ref a0, .int x1, .int x2, .int x3] V0 0 0 (fun r V => (fun r _ => ∃ y : Int32, r = some (.int y) ∧ ((-2147483648) ≤ y.toInt) ∧ (y.toInt ≤ 2147483647) ∧ (y.toInt = -2)) r V ∧ V = V0) := by
  refine jTot.of_J [some (.ref a0), some (.int x1), some (.int x2), some (.int x3), none] moX7_pivot (Nat.le_of_ble_eq_true rfl) rfl ?_
  have hrx1 := j_rng x1
  have hrx2 := j_rng x2
  have hrx3 := j_rng x3
  have he : jeff [] V0 V0 := jeff.refl _ _
  obtain ⟨fs_a0, hO_a0, hK_a0⟩ := WT_obj hW id ha0
  have hF_v0 := hf_v0.get hO_a0
  have hrv0 : 0 ≤ v0.toInt ∧ v0.toInt ≤ 16 := jok_rngI hK_a0 rfl hF_v0
  have hF_gr := hr_gr.get hO_a0
  obtain ⟨w_gr, hFq_gr, b_gr, hbq_gr, hb_gr⟩ := hK_a0.2 1 (.inr (some (.inl 14))) rfl
  cases hF_gr.symm.trans (hFq_gr.trans (congrArg some hbq_gr))
  have hF_mn := hr_mn.get hO_a0
  obtain ⟨w_mn, hFq_mn, b_mn, hbq_mn, hb_mn⟩ := hK_a0.2 2 (.inr (some (.inl 15))) rfl
  cases hF_mn.symm.trans (hFq_mn.trans (congrArg some hbq_mn))
  have hF_sp := hr_sp.get hO_a0
  obtain ⟨w_sp, hFq_sp, b_sp, hbq_sp, hb_sp⟩ := hK_a0.2 3 (.inr (some (.inl 16))) rfl
  cases hF_sp.symm.trans (hFq_sp.trans (congrArg some hbq_sp))
  have hF_rw := hr_rw.get hO_a0
  obtain ⟨w_rw, hFq_rw, b_rw, hbq_rw, hb_rw⟩ := hK_a0.2 4 (.inr (some (.inl 17))) rfl
  cases hF_rw.symm.trans (hFq_rw.trans (congrArg some hbq_rw))
  have hF_px := hr_px.get hO_a0
  obtain ⟨w_px, hFq_px, b_px, hbq_px, hb_px⟩ := hK_a0.2 6 (.inr (some (.inl 18))) rfl
  cases hF_px.symm.trans (hFq_px.trans (congrArg some hbq_px))
  have hF_py := hr_py.get hO_a0
  obtain ⟨w_py, hFq_py, b_py, hbq_py, hb_py⟩ := hK_a0.2 7 (.inr (some (.inl 19))) rfl
  cases hF_py.symm.trans (hFq_py.trans (congrArg some hbq_py))
  have hF_pz := hr_pz.get hO_a0
  obtain ⟨w_pz, hFq_pz, b_pz, hbq_pz, hb_pz⟩ := hK_a0.2 8 (.inr (some (.inl 20))) rfl
  cases hF_pz.symm.trans (hFq_pz.trans (congrArg some hbq_pz))
  obtain ⟨hN_GA, hv_GA⟩ := WT_rngI (r := (0, 3)) hW id rfl ha_GA
  clear hN_GA
  obtain ⟨hN_MN, hv_MN⟩ := WT_rngI (r := (0, 60)) hW id rfl ha_MN
  clear hN_MN
  obtain ⟨hN_SP, hv_SP⟩ := WT_rngI (r := ((-2147483648), 2147483647)) hW id rfl ha_SP
  clear hN_SP
  obtain ⟨hN_RW, hv_RW⟩ := WT_rngI (r := ((-2147483648), 2147483647)) hW id rfl ha_RW
  clear hN_RW
  obtain ⟨hN_PX, hv_PX⟩ := WT_rngI (r := ((-2147483648), 2147483647)) hW id rfl ha_PX
  clear hN_PX
  obtain ⟨hN_PY, hv_PY⟩ := WT_rngI (r := ((-2147483648), 2147483647)) hW id rfl ha_PY
  clear hN_PY
  obtain ⟨hN_PZ, hv_PZ⟩ := WT_rngI (r := ((-2147483648), 2147483647)) hW id rfl ha_PZ
  clear hN_PZ
  refine J_aload_n dX7_pivot_0 rfl ?_
  refine J_iload_n dX7_pivot_1 rfl ?_
  refine Jw_callV1 (q9 := (RX7, TX7, 34)) moX7_isWalk jw_ml_X7_130 jw_im_X7_isWalk jw_se_X7_isWalk ha0 rfl rfl dX7_pivot_2 (w_X7_isWalk_z (d - 1) _ a0 x1 v0 (by omega) hW  ha0 ⟨_, hO_a0, hF_v0⟩) (by omega) (Nat.zero_le _) (Nat.zero_le _) (Nat.le_of_ble_eq_true rfl) (fun r2 V2 h2 => ?_)
  obtain ⟨⟨y2, rfl, hl2, hh2, hP2_0⟩, hE2⟩ := h2
  have hE2 := hE2.symm
  subst hE2
  refine Jz_if_eq (tgt := 41) jEq.rf dX7_pivot_5 (by decide) (fun c5 => ?_) (fun c5 => ?_)
  · refine Jz_bipush (-2) dX7_pivot_41 (by decide) (fun y41 he41 => ?_)
    exact J_ret (r := some (.int _)) dX7_pivot_43 ⟨rfl, _, rfl, rfl⟩ (⟨⟨_, rfl, (j_rng _).1, (j_rng _).2, (by (try simp only [he41.eq, true_and, and_true]) <;> omega)⟩, rfl⟩)
  · refine J_iload_n dX7_pivot_8 rfl ?_
    refine Jz_iconst 0 dX7_pivot_9 (by decide) (fun y9 he9 => ?_)
    refine J_aload_n dX7_pivot_10 rfl ?_
    refine J_get jf_X7_13 dX7_pivot_11 hO_a0 hF_mn ?_
    refine J_iload_n dX7_pivot_14 rfl ?_
    refine Jz_iald (r := (0, 60)) jEq.rf dX7_pivot_15 ha_MN rfl hv_MN (by omega) (by omega) (fun y15 hf15 hl15 hh15 => ?_)
    dsimp only at hl15 hh15
    have hq15 : (MN x1.toInt.toNat).toInt = y15.toInt := by rw [hf15]
    refine J_callS3 moX7_in jw_ml_X7_105 jw_st_X7_in dX7_pivot_16 (w_X7_in (d - 1) _ x2 y9 y15 (by omega)   ) (by omega) (Nat.zero_le _) (Nat.zero_le _) (Nat.le_of_ble_eq_true rfl) (fun r16 V16 h16 => ?_)
    obtain ⟨⟨y16, rfl, hl16, hh16, hI16_0, hI16_1⟩, hE16⟩ := h16
    have hE16 := hE16.symm
    subst hE16
    refine Jz_if_eq (tgt := 41) jEq.rf dX7_pivot_19 (by decide) (fun c19 => ?_) (fun c19 => ?_)
    · have q19_1 := hI16_1.of (by omega)
      try simp only [he9.eq] at q19_1
      refine Jz_bipush (-2) dX7_pivot_41 (by decide) (fun y41 he41 => ?_)
      exact J_ret (r := some (.int _)) dX7_pivot_43 ⟨rfl, _, rfl, rfl⟩ (⟨⟨_, rfl, (j_rng _).1, (j_rng _).2, (by (try simp only [he41.eq, true_and, and_true]) <;> omega)⟩, rfl⟩)
    · have q19_0 := hI16_0.of (by omega)
      try simp only [he9.eq] at q19_0
      refine J_iload_n dX7_pivot_22 rfl ?_
      refine Jz_iconst 0 dX7_pivot_23 (by decide) (fun y23 he23 => ?_)
      refine J_aload_n dX7_pivot_24 rfl ?_
      refine J_get jf_X7_7 dX7_pivot_25 hO_a0 hF_gr ?_
      refine J_iload_n dX7_pivot_28 rfl ?_
      refine Jz_iald (r := (0, 3)) jEq.rf dX7_pivot_29 ha_GA rfl hv_GA (by omega) (by omega) (fun y29 hf29 hl29 hh29 => ?_)
      dsimp only at hl29 hh29
      have hq29 : (GA x1.toInt.toNat).toInt = y29.toInt := by rw [hf29]
      rw [hq29] at hp0
      refine J_callS1 moX7_turns jw_ml_X7_143 jw_st_X7_turns dX7_pivot_30 (w_X7_turns (d - 1) _ y29 (by omega)   ) (by omega) (Nat.zero_le _) (Nat.zero_le _) (Nat.le_of_ble_eq_true rfl) (fun r30 V30 h30 => ?_)
      obtain ⟨⟨y30, rfl, hl30, hh30, hP30_0⟩, hE30⟩ := h30
      have hE30 := hE30.symm
      subst hE30
      have hz30 : jEq y30.toInt (jtur (y29.toInt)) := hP30_0
      simp only [hP30_0] at hl30 hh30
      clear hP30_0
      refine Jz_iconst 1 dX7_pivot_33 (by decide) (fun y33 he33 => ?_)
      refine Jz_isub hz30 he33 dX7_pivot_34 (by omega) (by omega) (fun y34 he34 => ?_)
      refine J_callS3 moX7_in jw_ml_X7_105 jw_st_X7_in dX7_pivot_35 (w_X7_in (d - 1) _ x3 y23 y34 (by omega)   ) (by omega) (Nat.zero_le _) (Nat.zero_le _) (Nat.le_of_ble_eq_true rfl) (fun r35 V35 h35 => ?_)
      obtain ⟨⟨y35, rfl, hl35, hh35, hI35_0, hI35_1⟩, hE35⟩ := h35
      have hE35 := hE35.symm
      subst hE35
      refine Jz_if_ne (tgt := 44) jEq.rf dX7_pivot_38 (by decide) (fun c38 => ?_) (fun c38 => ?_)
      · have q38_0 := hI35_0.of (by omega)
        try simp only [he23.eq, he34.eq] at q38_0
        exact False.elim (by omega)
      · have q38_1 := hI35_1.of (by omega)
        try simp only [he23.eq, he34.eq] at q38_1
        refine Jz_bipush (-2) dX7_pivot_41 (by decide) (fun y41 he41 => ?_)
        exact J_ret (r := some (.int _)) dX7_pivot_43 ⟨rfl, _, rfl, rfl⟩ (⟨⟨_, rfl, (j_rng _).1, (j_rng _).2, (by (try simp only [he41.eq, true_and, and_true]) <;> omega)⟩, rfl⟩)
set_option maxRecDepth 100000 in
set_option maxHeartbeats 8000000 in
theorem w_X7_join_bad {tS : jTS} (d : Nat) (V0 : jH) (a0 : Nat) (x1 : Int32) (x2 : Int32) (v0 : Int32) (gr : Nat) (mn : Nat) (sp : Nat) (rw : Nat) (px : Nat) (py : Nat) (pz : Nat) (GA : Nat → Int32) (MN : Nat → Int32) (SP : Nat → Int32) (RW : Nat → Int32) (PX : Nat → Int32) (PY : Nat → Int32) (PZ : Nat → Int32) (hd : 3 ≤ d) (hW : WT V0) (ha0 : jis V0 (.inr 5) a0) (hf_v0 : jfI V0 a0 5 0 v0) (hr_gr : jfR V0 a0 5 1 gr) (hr_mn : jfR V0 a0 5 2 mn) (hr_sp : jfR V0 a0 5 3 sp) (hr_rw : jfR V0 a0 5 4 rw) (hr_px : jfR V0 a0 5 6 px) (hr_py : jfR V0 a0 5 7 py) (hr_pz : jfR V0 a0 5 8 pz) (ha_GA : V0 gr = some (.inl (14, 16, .inl GA))) (ha_MN : V0 mn = some (.inl (15, 16, .inl MN))) (ha_SP : V0 sp = some (.inl (16, 960, .inl SP))) (ha_RW : V0 rw = some (.inl (17, 120, .inl RW))) (ha_PX : V0 px = some (.inl (18, 121, .inl PX))) (ha_PY : V0 py = some (.inl (19, 121, .inl PY))) (ha_PZ : V0 pz = some (.inl (20, 121, .inl PZ))) (hp0 : ¬ (0 ≤ x1.toInt ∧ x1.toInt < v0.toInt ∧ 0 ≤ x2.toInt ∧ x2.toInt < v0.toInt)) : jTot tS mX7_join d [.ref a0, .int x1, .int x2] V0 0 0 (fun r V => (fun r _ => ∃ y : Int32, r = some (.int y) ∧ ((-2147483648) ≤ y.toInt) ∧ (y.toInt ≤ 2147483647) ∧ (y.toInt = -2)) r V ∧ V = V0) := by
  refine jTot.of_J [some (.ref a0), some (.int x1), some (.int x2), none, none] moX7_join (Nat.le_of_ble_eq_true rfl) rfl ?_
  have hrx1 := j_rng x1
  have hrx2 := j_rng x2
  have he : jeff [] V0 V0 := jeff.refl _ _
  obtain ⟨fs_a0, hO_a0, hK_a0⟩ := WT_obj hW id ha0
  have hF_v0 := hf_v0.get hO_a0
  have hrv0 : 0 ≤ v0.toInt ∧ v0.toInt ≤ 16 := jok_rngI hK_a0 rfl hF_v0
  have hF_gr := hr_gr.get hO_a0
  obtain ⟨w_gr, hFq_gr, b_gr, hbq_gr, hb_gr⟩ := hK_a0.2 1 (.inr (some (.inl 14))) rfl
  cases hF_gr.symm.trans (hFq_gr.trans (congrArg some hbq_gr))
  have hF_mn := hr_mn.get hO_a0
  obtain ⟨w_mn, hFq_mn, b_mn, hbq_mn, hb_mn⟩ := hK_a0.2 2 (.inr (some (.inl 15))) rfl
  cases hF_mn.symm.trans (hFq_mn.trans (congrArg some hbq_mn))
  have hF_sp := hr_sp.get hO_a0
  obtain ⟨w_sp, hFq_sp, b_sp, hbq_sp, hb_sp⟩ := hK_a0.2 3 (.inr (some (.inl 16))) rfl
  cases hF_sp.symm.trans (hFq_sp.trans (congrArg some hbq_sp))
  have hF_rw := hr_rw.get hO_a0
  obtain ⟨w_rw, hFq_rw, b_rw, hbq_rw, hb_rw⟩ := hK_a0.2 4 (.inr (some (.inl 17))) rfl
  cases hF_rw.symm.trans (hFq_rw.trans (congrArg some hbq_rw))
  have hF_px := hr_px.get hO_a0
  obtain ⟨w_px, hFq_px, b_px, hbq_px, hb_px⟩ := hK_a0.2 6 (.inr (some (.inl 18))) rfl
  cases hF_px.symm.trans (hFq_px.trans (congrArg some hbq_px))
  have hF_py := hr_py.get hO_a0
  obtain ⟨w_py, hFq_py, b_py, hbq_py, hb_py⟩ := hK_a0.2 7 (.inr (some (.inl 19))) rfl
  cases hF_py.symm.trans (hFq_py.trans (congrArg some hbq_py))
  have hF_pz := hr_pz.get hO_a0
  obtain ⟨w_pz, hFq_pz, b_pz, hbq_pz, hb_pz⟩ := hK_a0.2 8 (.inr (some (.inl 20))) rfl
  cases hF_pz.symm.trans (hFq_pz.trans (congrArg some hbq_pz))
  obtain ⟨hN_GA, hv_GA⟩ := WT_rngI (r := (0, 3)) hW id rfl ha_GA
  clear hN_GA
  obtain ⟨hN_MN, hv_MN⟩ := WT_rngI (r := (0, 60)) hW id rfl ha_MN
  clear hN_MN
  obtain ⟨hN_SP, hv_SP⟩ := WT_rngI (r := ((-2147483648), 2147483647)) hW id rfl ha_SP
  clear hN_SP
  obtain ⟨hN_RW, hv_RW⟩ := WT_rngI (r := ((-2147483648), 2147483647)) hW id rfl ha_RW
  clear hN_RW
  obtain ⟨hN_PX, hv_PX⟩ := WT_rngI (r := ((-2147483648), 2147483647)) hW id rfl ha_PX
  clear hN_PX
  obtain ⟨hN_PY, hv_PY⟩ := WT_rngI (r := ((-2147483648), 2147483647)) hW id rfl ha_PY
  clear hN_PY
  obtain ⟨hN_PZ, hv_PZ⟩ := WT_rngI (r := ((-2147483648), 2147483647)) hW id rfl ha_PZ
  clear hN_PZ
  refine J_aload_n dX7_join_0 rfl ?_
  refine J_iload_n dX7_join_1 rfl ?_
  refine Jw_callV1 (q9 := (RX7, TX7, 34)) moX7_isWalk jw_ml_X7_130 jw_im_X7_isWalk jw_se_X7_isWalk ha0 rfl rfl dX7_join_2 (w_X7_isWalk_z (d - 1) _ a0 x1 v0 (by omega) hW  ha0 ⟨_, hO_a0, hF_v0⟩) (by omega) (Nat.zero_le _) (Nat.zero_le _) (Nat.le_of_ble_eq_true rfl) (fun r2 V2 h2 => ?_)
  obtain ⟨⟨y2, rfl, hl2, hh2, hP2_0⟩, hE2⟩ := h2
  have hE2 := hE2.symm
  subst hE2
  refine Jz_if_eq (tgt := 16) jEq.rf dX7_join_5 (by decide) (fun c5 => ?_) (fun c5 => ?_)
  · refine Jz_bipush (-2) dX7_join_16 (by decide) (fun y16 he16 => ?_)
    exact J_ret (r := some (.int _)) dX7_join_18 ⟨rfl, _, rfl, rfl⟩ (⟨⟨_, rfl, (j_rng _).1, (j_rng _).2, (by (try simp only [he16.eq, true_and, and_true]) <;> omega)⟩, rfl⟩)
  · refine J_aload_n dX7_join_8 rfl ?_
    refine J_iload_n dX7_join_9 rfl ?_
    refine Jw_callV1 (q9 := (RX7, TX7, 34)) moX7_isWalk jw_ml_X7_130 jw_im_X7_isWalk jw_se_X7_isWalk ha0 rfl rfl dX7_join_10 (w_X7_isWalk_z (d - 1) _ a0 x2 v0 (by omega) hW  ha0 ⟨_, hO_a0, hF_v0⟩) (by omega) (Nat.zero_le _) (Nat.zero_le _) (Nat.le_of_ble_eq_true rfl) (fun r10 V10 h10 => ?_)
    obtain ⟨⟨y10, rfl, hl10, hh10, hP10_0⟩, hE10⟩ := h10
    have hE10 := hE10.symm
    subst hE10
    refine Jz_if_ne (tgt := 19) jEq.rf dX7_join_13 (by decide) (fun c13 => ?_) (fun c13 => ?_)
    · exact False.elim (by omega)
    · refine Jz_bipush (-2) dX7_join_16 (by decide) (fun y16 he16 => ?_)
      exact J_ret (r := some (.int _)) dX7_join_18 ⟨rfl, _, rfl, rfl⟩ (⟨⟨_, rfl, (j_rng _).1, (j_rng _).2, (by (try simp only [he16.eq, true_and, and_true]) <;> omega)⟩, rfl⟩)
set_option maxRecDepth 100000 in
set_option maxHeartbeats 8000000 in
theorem w_X7_turnBack_bad {tS : jTS} (d : Nat) (V0 : jH) (a0 : Nat) (x1 : Int32) (v0 : Int32) (gr : Nat) (mn : Nat) (sp : Nat) (rw : Nat) (px : Nat) (py : Nat) (pz : Nat) (GA : Nat → Int32) (MN : Nat → Int32) (SP : Nat → Int32) (RW : Nat → Int32) (PX : Nat → Int32) (PY : Nat → Int32) (PZ : Nat → Int32) (hd : 2 ≤ d) (hW : WT V0) (ha0 : jis V0 (.inr 5) a0) (hf_v0 : jfI V0 a0 5 0 v0) (hr_gr : jfR V0 a0 5 1 gr) (hr_mn : jfR V0 a0 5 2 mn) (hr_sp : jfR V0 a0 5 3 sp) (hr_rw : jfR V0 a0 5 4 rw) (hr_px : jfR V0 a0 5 6 px) (hr_py : jfR V0 a0 5 7 py) (hr_pz : jfR V0 a0 5 8 pz) (ha_GA : V0 gr = some (.inl (14, 16, .inl GA))) (ha_MN : V0 mn = some (.inl (15, 16, .inl MN))) (ha_SP : V0 sp = some (.inl (16, 960, .inl SP))) (ha_RW : V0 rw = some (.inl (17, 120, .inl RW))) (ha_PX : V0 px = some (.inl (18, 121, .inl PX))) (ha_PY : V0 py = some (.inl (19, 121, .inl PY))) (ha_PZ : V0 pz = some (.inl (20, 121, .inl PZ))) (hp0 : ¬ (0 ≤ x1.toInt ∧ x1.toInt < v0.toInt)) : jTot tS mX7_turnBack d [.ref a0, .int x1] V0 0 0 (fun r V => (fun r _ => ∃ y : Int32, r = some (.int y) ∧ ((-2147483648) ≤ y.toInt) ∧ (y.toInt ≤ 2147483647) ∧ (y.toInt = -2)) r V ∧ V = V0) := by
  refine jTot.of_J [some (.ref a0), some (.int x1), none] moX7_turnBack (Nat.le_of_ble_eq_true rfl) rfl ?_
  have hrx1 := j_rng x1
  have he : jeff [] V0 V0 := jeff.refl _ _
  obtain ⟨fs_a0, hO_a0, hK_a0⟩ := WT_obj hW id ha0
  have hF_v0 := hf_v0.get hO_a0
  have hrv0 : 0 ≤ v0.toInt ∧ v0.toInt ≤ 16 := jok_rngI hK_a0 rfl hF_v0
  have hF_gr := hr_gr.get hO_a0
  obtain ⟨w_gr, hFq_gr, b_gr, hbq_gr, hb_gr⟩ := hK_a0.2 1 (.inr (some (.inl 14))) rfl
  cases hF_gr.symm.trans (hFq_gr.trans (congrArg some hbq_gr))
  have hF_mn := hr_mn.get hO_a0
  obtain ⟨w_mn, hFq_mn, b_mn, hbq_mn, hb_mn⟩ := hK_a0.2 2 (.inr (some (.inl 15))) rfl
  cases hF_mn.symm.trans (hFq_mn.trans (congrArg some hbq_mn))
  have hF_sp := hr_sp.get hO_a0
  obtain ⟨w_sp, hFq_sp, b_sp, hbq_sp, hb_sp⟩ := hK_a0.2 3 (.inr (some (.inl 16))) rfl
  cases hF_sp.symm.trans (hFq_sp.trans (congrArg some hbq_sp))
  have hF_rw := hr_rw.get hO_a0
  obtain ⟨w_rw, hFq_rw, b_rw, hbq_rw, hb_rw⟩ := hK_a0.2 4 (.inr (some (.inl 17))) rfl
  cases hF_rw.symm.trans (hFq_rw.trans (congrArg some hbq_rw))
  have hF_px := hr_px.get hO_a0
  obtain ⟨w_px, hFq_px, b_px, hbq_px, hb_px⟩ := hK_a0.2 6 (.inr (some (.inl 18))) rfl
  cases hF_px.symm.trans (hFq_px.trans (congrArg some hbq_px))
  have hF_py := hr_py.get hO_a0
  obtain ⟨w_py, hFq_py, b_py, hbq_py, hb_py⟩ := hK_a0.2 7 (.inr (some (.inl 19))) rfl
  cases hF_py.symm.trans (hFq_py.trans (congrArg some hbq_py))
  have hF_pz := hr_pz.get hO_a0
  obtain ⟨w_pz, hFq_pz, b_pz, hbq_pz, hb_pz⟩ := hK_a0.2 8 (.inr (some (.inl 20))) rfl
  cases hF_pz.symm.trans (hFq_pz.trans (congrArg some hbq_pz))
  obtain ⟨hN_GA, hv_GA⟩ := WT_rngI (r := (0, 3)) hW id rfl ha_GA
  clear hN_GA
  obtain ⟨hN_MN, hv_MN⟩ := WT_rngI (r := (0, 60)) hW id rfl ha_MN
  clear hN_MN
  obtain ⟨hN_SP, hv_SP⟩ := WT_rngI (r := ((-2147483648), 2147483647)) hW id rfl ha_SP
  clear hN_SP
  obtain ⟨hN_RW, hv_RW⟩ := WT_rngI (r := ((-2147483648), 2147483647)) hW id rfl ha_RW
  clear hN_RW
  obtain ⟨hN_PX, hv_PX⟩ := WT_rngI (r := ((-2147483648), 2147483647)) hW id rfl ha_PX
  clear hN_PX
  obtain ⟨hN_PY, hv_PY⟩ := WT_rngI (r := ((-2147483648), 2147483647)) hW id rfl ha_PY
  clear hN_PY
  obtain ⟨hN_PZ, hv_PZ⟩ := WT_rngI (r := ((-2147483648), 2147483647)) hW id rfl ha_PZ
  clear hN_PZ
  refine J_aload_n dX7_turnBack_0 rfl ?_
  refine J_iload_n dX7_turnBack_1 rfl ?_
  refine Jw_callV1 (q9 := (RX7, TX7, 34)) moX7_isWalk jw_ml_X7_130 jw_im_X7_isWalk jw_se_X7_isWalk ha0 rfl rfl dX7_turnBack_2 (w_X7_isWalk_z (d - 1) _ a0 x1 v0 (by omega) hW  ha0 ⟨_, hO_a0, hF_v0⟩) (by omega) (Nat.zero_le _) (Nat.zero_le _) (Nat.le_of_ble_eq_true rfl) (fun r2 V2 h2 => ?_)
  obtain ⟨⟨y2, rfl, hl2, hh2, hP2_0⟩, hE2⟩ := h2
  have hE2 := hE2.symm
  subst hE2
  refine Jz_if_ne (tgt := 11) jEq.rf dX7_turnBack_5 (by decide) (fun c5 => ?_) (fun c5 => ?_)
  · exact False.elim (by omega)
  · refine Jz_bipush (-2) dX7_turnBack_8 (by decide) (fun y8 he8 => ?_)
    exact J_ret (r := some (.int _)) dX7_turnBack_10 ⟨rfl, _, rfl, rfl⟩ (⟨⟨_, rfl, (j_rng _).1, (j_rng _).2, (by (try simp only [he8.eq, true_and, and_true]) <;> omega)⟩, rfl⟩)
set_option maxRecDepth 100000 in
set_option maxHeartbeats 8000000 in
theorem w_X7_walk_bad {tS : jTS} (d : Nat) (V0 : jH) (a0 : Nat) (x1 : Int32) (v0 : Int32) (hd : 1 ≤ d) (hW : WT V0) (ha0 : jis V0 (.inr 5) a0) (hf_v0 : jfI V0 a0 5 0 v0) (hp0 : ¬ (0 ≤ x1.toInt ∧ x1.toInt ≤ 3)) : jTot tS mX7_walk d [.ref a0, .int x1] V0 0 0 (fun r V => (fun r _ => ∃ y : Int32, r = some (.int y) ∧ ((-2147483648) ≤ y.toInt) ∧ (y.toInt ≤ 2147483647) ∧ (y.toInt = -2)) r V ∧ V = V0) := by
  refine jTot.of_J [some (.ref a0), some (.int x1)] moX7_walk (Nat.le_of_ble_eq_true rfl) rfl ?_
  have hrx1 := j_rng x1
  have he : jeff [] V0 V0 := jeff.refl _ _
  obtain ⟨fs_a0, hO_a0, hK_a0⟩ := WT_obj hW id ha0
  have hF_v0 := hf_v0.get hO_a0
  have hrv0 : 0 ≤ v0.toInt ∧ v0.toInt ≤ 16 := jok_rngI hK_a0 rfl hF_v0
  refine J_iload_n dX7_walk_0 rfl ?_
  refine Jz_iconst 0 dX7_walk_1 (by decide) (fun y1 he1 => ?_)
  refine Jz_iconst 3 dX7_walk_2 (by decide) (fun y2 he2 => ?_)
  refine J_callS3 moX7_in jw_ml_X7_105 jw_st_X7_in dX7_walk_3 (w_X7_in (d - 1) _ x1 y1 y2 (by omega)   ) (by omega) (Nat.zero_le _) (Nat.zero_le _) (Nat.le_of_ble_eq_true rfl) (fun r3 V3 h3 => ?_)
  obtain ⟨⟨y3, rfl, hl3, hh3, hI3_0, hI3_1⟩, hE3⟩ := h3
  have hE3 := hE3.symm
  subst hE3
  refine Jz_if_ne (tgt := 12) jEq.rf dX7_walk_6 (by decide) (fun c6 => ?_) (fun c6 => ?_)
  · have q6_0 := hI3_0.of (by omega)
    try simp only [he1.eq, he2.eq] at q6_0
    exact False.elim (by omega)
  · have q6_1 := hI3_1.of (by omega)
    try simp only [he1.eq, he2.eq] at q6_1
    refine Jz_bipush (-2) dX7_walk_9 (by decide) (fun y9 he9 => ?_)
    exact J_ret (r := some (.int _)) dX7_walk_11 ⟨rfl, _, rfl, rfl⟩ (⟨⟨_, rfl, (j_rng _).1, (j_rng _).2, (by (try simp only [he9.eq, true_and, and_true]) <;> omega)⟩, rfl⟩)
set_option maxRecDepth 100000 in
set_option maxHeartbeats 8000000 in
theorem w_X7_walk_ok {tS : jTS} (d : Nat) (V0 : jH) (a0 : Nat) (x1 : Int32) (v0 : Int32) (gr : Nat) (mn : Nat) (GA : Nat → Int32) (MN : Nat → Int32) (hd : 1 ≤ d) (hW : WT V0) (ha0 : jis V0 (.inr 5) a0) (hf_v0 : jfI V0 a0 5 0 v0) (hr_gr : jfR V0 a0 5 1 gr) (hr_mn : jfR V0 a0 5 2 mn) (ha_GA : V0 gr = some (.inl (14, 16, .inl GA))) (ha_MN : V0 mn = some (.inl (15, 16, .inl MN))) (hp0 : 0 ≤ x1.toInt) (hp1 : x1.toInt ≤ 3) (hp2 : v0.toInt < 16) : jTot tS mX7_walk d [.ref a0, .int x1] V0 0 0 (fun r V => (jPost [.inr 5, .inl 14, .inl 15] V0 (fun r _ => ∃ y : Int32, r = some (.int y) ∧ ((-2147483648) ≤ y.toInt) ∧ (y.toInt ≤ 2147483647) ∧ (y.toInt = v0.toInt))) r V ∧ (∃ G2 : Nat → Int32, V gr = some (.inl (14, 16, .inl G2)) ∧ G2 v0.toInt.toNat = x1 ∧ ∀ j : Nat, j ≠ v0.toInt.toNat → G2 j = GA j) ∧ (∃ M2 : Nat → Int32, V mn = some (.inl (15, 16, .inl M2)) ∧ (M2 v0.toInt.toNat).toInt = 0 ∧ ∀ j : Nat, j ≠ v0.toInt.toNat → M2 j = MN j) ∧ jkc 5 [23, 24, 26, 27, 28] V0 V ∧ (∃ w0 : Int32, jfI V a0 5 0 w0 ∧ (w0.toInt = v0.toInt + 1))) := by
  refine jTot.of_J [some (.ref a0), some (.int x1)] moX7_walk (Nat.le_of_ble_eq_true rfl) rfl ?_
  have hrx1 := j_rng x1
  have he : jeff [.inr 5, .inl 14, .inl 15] V0 V0 := jeff.refl _ _
  have hkp : jkc 5 [23, 24, 26, 27, 28] V0 V0 := jkc.rf
  obtain ⟨fs_a0, hO_a0, hK_a0⟩ := WT_obj hW id ha0
  have hF_v0 := hf_v0.get hO_a0
  have hrv0 : 0 ≤ v0.toInt ∧ v0.toInt ≤ 16 := jok_rngI hK_a0 rfl hF_v0
  have hF_gr := hr_gr.get hO_a0
  obtain ⟨w_gr, hFq_gr, b_gr, hbq_gr, hb_gr⟩ := hK_a0.2 1 (.inr (some (.inl 14))) rfl
  cases hF_gr.symm.trans (hFq_gr.trans (congrArg some hbq_gr))
  have hF_mn := hr_mn.get hO_a0
  obtain ⟨w_mn, hFq_mn, b_mn, hbq_mn, hb_mn⟩ := hK_a0.2 2 (.inr (some (.inl 15))) rfl
  cases hF_mn.symm.trans (hFq_mn.trans (congrArg some hbq_mn))
  obtain ⟨hN_GA, hv_GA⟩ := WT_rngI (r := (0, 3)) hW id rfl ha_GA
  clear hN_GA
  obtain ⟨hN_MN, hv_MN⟩ := WT_rngI (r := (0, 60)) hW id rfl ha_MN
  clear hN_MN
  refine J_iload_n dX7_walk_0 rfl ?_
  refine Jz_iconst 0 dX7_walk_1 (by decide) (fun y1 he1 => ?_)
  refine Jz_iconst 3 dX7_walk_2 (by decide) (fun y2 he2 => ?_)
  refine J_callS3 moX7_in jw_ml_X7_105 jw_st_X7_in dX7_walk_3 (w_X7_in (d - 1) _ x1 y1 y2 (by omega)   ) (by omega) (Nat.zero_le _) (Nat.zero_le _) (Nat.le_of_ble_eq_true rfl) (fun r3 V3 h3 => ?_)
  obtain ⟨⟨y3, rfl, hl3, hh3, hI3_0, hI3_1⟩, hE3⟩ := h3
  have hE3 := hE3.symm
  subst hE3
  refine Jz_if_ne (tgt := 12) jEq.rf dX7_walk_6 (by decide) (fun c6 => ?_) (fun c6 => ?_)
  · have q6_0 := hI3_0.of (by omega)
    try simp only [he1.eq, he2.eq] at q6_0
    refine J_aload_n dX7_walk_12 rfl ?_
    refine J_get jf_X7_102 dX7_walk_13 hO_a0 hF_v0 ?_
    refine Jz_bipush 16 dX7_walk_16 (by decide) (fun y16 he16 => ?_)
    refine Jz_icmp_ne (tgt := 24) jEq.rf he16 dX7_walk_18 (by decide) (fun c18 => ?_) (fun c18 => ?_)
    · refine J_aload_n dX7_walk_24 rfl ?_
      refine J_get jf_X7_7 dX7_walk_25 hO_a0 hF_gr ?_
      refine J_aload_n dX7_walk_28 rfl ?_
      refine J_get jf_X7_102 dX7_walk_29 hO_a0 hF_v0 ?_
      refine J_iload_n dX7_walk_32 rfl ?_
      refine Jz_iast (r := (0, 3)) jEq.rf jEq.rf hW id dX7_walk_33 ha_GA rfl rfl (by omega) (by omega) (by omega) (by omega) (fun V33 G33 hW hx33 hA33 hp33 ho33 => ?_)
      obtain ⟨hN33, hv33⟩ := WT_rngI (r := (0, 3)) hW id rfl hA33
      clear hN33
      have he := he.trans (hx33.sub (jsub_of rfl))
      have hkp := hkp.trans (jkc.of hx33 (jnot_of rfl))
      have ha0 := ha0.mono hx33.1
      have hb_gr := hb_gr.mono hx33.1
      have hb_mn := hb_mn.mono hx33.1
      have hO_a0 := hx33.2 _ _ hO_a0 (jnot_of rfl)
      have hK_a0 := hK_a0.mono hx33.1
      have ha_MN := hx33.2 _ _ ha_MN (jnot_of rfl)
      refine J_aload_n dX7_walk_34 rfl ?_
      refine J_get jf_X7_13 dX7_walk_35 hO_a0 hF_mn ?_
      refine J_aload_n dX7_walk_38 rfl ?_
      refine J_get jf_X7_102 dX7_walk_39 hO_a0 hF_v0 ?_
      refine Jz_iconst 0 dX7_walk_42 (by decide) (fun y42 he42 => ?_)
      refine Jz_iast (r := (0, 60)) jEq.rf he42 hW id dX7_walk_43 ha_MN rfl rfl (by omega) (by omega) (by omega) (by omega) (fun V43 G43 hW hx43 hA43 hp43 ho43 => ?_)
      obtain ⟨hN43, hv43⟩ := WT_rngI (r := (0, 60)) hW id rfl hA43
      clear hN43
      have he := he.trans (hx43.sub (jsub_of rfl))
      have hkp := hkp.trans (jkc.of hx43 (jnot_of rfl))
      have ha0 := ha0.mono hx43.1
      have hb_gr := hb_gr.mono hx43.1
      have hb_mn := hb_mn.mono hx43.1
      have hO_a0 := hx43.2 _ _ hO_a0 (jnot_of rfl)
      have hK_a0 := hK_a0.mono hx43.1
      have hA33 := hx43.2 _ _ hA33 (jnot_of rfl)
      refine J_aload_n dX7_walk_44 rfl ?_
      refine J_dup dX7_walk_45 rfl ?_
      refine J_get jf_X7_102 dX7_walk_46 hO_a0 hF_v0 ?_
      refine Jz_iconst 1 dX7_walk_49 (by decide) (fun y49 he49 => ?_)
      refine Jz_iadd jEq.rf he49 dX7_walk_50 (by omega) (by omega) (fun y50 he50 => ?_)
      refine Jz_putI hO_a0 hW id rfl jf_X7_102 jt_X7_0 he50 dX7_walk_51 (by omega) (by omega) (fun _ _ => ⟨rfl, rfl⟩) (fun V51 fs51 hW hx51 hO51 hS51 hT51 hB51 => ?_)
      have hK51 : jokO _ (jFs 5) fs51 := hW _ _ id hO51
      have hF51_1 := (hT51 1 (by decide)).trans hF_gr
      have hF51_2 := (hT51 2 (by decide)).trans hF_mn
      have he := he.trans (hx51.sub (jsub_of rfl))
      have hkp := hkp.trans (jkc.put hO_a0 hO51 hT51 hB51 (by decide))
      have ha0 := ha0.mono hx51.1
      have hb_gr := hb_gr.mono hx51.1
      have hb_mn := hb_mn.mono hx51.1
      have hA33 := hx51.2 _ _ hA33 (jnot_of rfl)
      have hA43 := hx51.2 _ _ hA43 (jnot_of rfl)
      refine J_aload_n dX7_walk_54 rfl ?_
      refine J_get jf_X7_102 dX7_walk_55 hO51 hS51 ?_
      refine Jz_iconst 1 dX7_walk_58 (by decide) (fun y58 he58 => ?_)
      refine Jz_isub he50 he58 dX7_walk_59 (by omega) (by omega) (fun y59 he59 => ?_)
      exact J_ret (r := some (.int _)) dX7_walk_60 ⟨rfl, _, rfl, rfl⟩ (⟨⟨hW, he, ⟨_, rfl, (j_rng _).1, (j_rng _).2, (by (try simp only [he59.eq, true_and, and_true]) <;> omega)⟩⟩, ⟨G33, hA33, hp33, ho33⟩, ⟨G43, hA43, (by rw [hp43, he42.eq]), ho43⟩, hkp, ⟨_, ⟨_, hO51, hS51⟩, (by (try simp only [he50.eq, true_and, and_true]) <;> omega)⟩⟩)
    · exact False.elim (by omega)
  · have q6_1 := hI3_1.of (by omega)
    try simp only [he1.eq, he2.eq] at q6_1
    exact False.elim (by omega)
set_option maxRecDepth 100000 in
set_option maxHeartbeats 8000000 in
theorem w_X7_place_bad {tS : jTS} (d : Nat) (V0 : jH) (a0 : Nat) (x1 : Int32) (x2 : Int32) (x3 : Int32) (v0 : Int32) (gr : Nat) (mn : Nat) (sp : Nat) (rw : Nat) (px : Nat) (py : Nat) (pz : Nat) (GA : Nat → Int32) (MN : Nat → Int32) (SP : Nat → Int32) (RW : Nat → Int32) (PX : Nat → Int32) (PY : Nat → Int32) (PZ : Nat → Int32) (hd : 2 ≤ d) (hW : WT V0) (ha0 : jis V0 (.inr 5) a0) (hf_v0 : jfI V0 a0 5 0 v0) (hr_gr : jfR V0 a0 5 1 gr) (hr_mn : jfR V0 a0 5 2 mn) (hr_sp : jfR V0 a0 5 3 sp) (hr_rw : jfR V0 a0 5 4 rw) (hr_px : jfR V0 a0 5 6 px) (hr_py : jfR V0 a0 5 7 py) (hr_pz : jfR V0 a0 5 8 pz) (ha_GA : V0 gr = some (.inl (14, 16, .inl GA))) (ha_MN : V0 mn = some (.inl (15, 16, .inl MN))) (ha_SP : V0 sp = some (.inl (16, 960, .inl SP))) (ha_RW : V0 rw = some (.inl (17, 120, .inl RW))) (ha_PX : V0 px = some (.inl (18, 121, .inl PX))) (ha_PY : V0 py = some (.inl (19, 121, .inl PY))) (ha_PZ : V0 pz = some (.inl (20, 121, .inl PZ))) (hp0 : ¬ (0 ≤ x1.toInt ∧ x1.toInt < v0.toInt ∧ 0 ≤ x2.toInt ∧ x2.toInt ≤ (MN x1.toInt.toNat).toInt ∧ 0 ≤ x3.toInt ∧ x3.toInt ≤ 2)) : jTot tS mX7_place d [.ref a0, .int x1, .int x2, .int x3] V0 0 0 (fun r V => (fun r _ => ∃ y : Int32, r = some (.int y) ∧ ((-2147483648) ≤ y.toInt) ∧ (y.toInt ≤ 2147483647) ∧ (y.toInt = -1000)) r V ∧ V = V0) := by
  refine jTot.of_J [some (.ref a0), some (.int x1), some (.int x2), some (.int x3)] moX7_place (Nat.le_of_ble_eq_true rfl) rfl ?_
  have hrx1 := j_rng x1
  have hrx2 := j_rng x2
  have hrx3 := j_rng x3
  have he : jeff [] V0 V0 := jeff.refl _ _
  obtain ⟨fs_a0, hO_a0, hK_a0⟩ := WT_obj hW id ha0
  have hF_v0 := hf_v0.get hO_a0
  have hrv0 : 0 ≤ v0.toInt ∧ v0.toInt ≤ 16 := jok_rngI hK_a0 rfl hF_v0
  have hF_gr := hr_gr.get hO_a0
  obtain ⟨w_gr, hFq_gr, b_gr, hbq_gr, hb_gr⟩ := hK_a0.2 1 (.inr (some (.inl 14))) rfl
  cases hF_gr.symm.trans (hFq_gr.trans (congrArg some hbq_gr))
  have hF_mn := hr_mn.get hO_a0
  obtain ⟨w_mn, hFq_mn, b_mn, hbq_mn, hb_mn⟩ := hK_a0.2 2 (.inr (some (.inl 15))) rfl
  cases hF_mn.symm.trans (hFq_mn.trans (congrArg some hbq_mn))
  have hF_sp := hr_sp.get hO_a0
  obtain ⟨w_sp, hFq_sp, b_sp, hbq_sp, hb_sp⟩ := hK_a0.2 3 (.inr (some (.inl 16))) rfl
  cases hF_sp.symm.trans (hFq_sp.trans (congrArg some hbq_sp))
  have hF_rw := hr_rw.get hO_a0
  obtain ⟨w_rw, hFq_rw, b_rw, hbq_rw, hb_rw⟩ := hK_a0.2 4 (.inr (some (.inl 17))) rfl
  cases hF_rw.symm.trans (hFq_rw.trans (congrArg some hbq_rw))
  have hF_px := hr_px.get hO_a0
  obtain ⟨w_px, hFq_px, b_px, hbq_px, hb_px⟩ := hK_a0.2 6 (.inr (some (.inl 18))) rfl
  cases hF_px.symm.trans (hFq_px.trans (congrArg some hbq_px))
  have hF_py := hr_py.get hO_a0
  obtain ⟨w_py, hFq_py, b_py, hbq_py, hb_py⟩ := hK_a0.2 7 (.inr (some (.inl 19))) rfl
  cases hF_py.symm.trans (hFq_py.trans (congrArg some hbq_py))
  have hF_pz := hr_pz.get hO_a0
  obtain ⟨w_pz, hFq_pz, b_pz, hbq_pz, hb_pz⟩ := hK_a0.2 8 (.inr (some (.inl 20))) rfl
  cases hF_pz.symm.trans (hFq_pz.trans (congrArg some hbq_pz))
  obtain ⟨hN_GA, hv_GA⟩ := WT_rngI (r := (0, 3)) hW id rfl ha_GA
  clear hN_GA
  obtain ⟨hN_MN, hv_MN⟩ := WT_rngI (r := (0, 60)) hW id rfl ha_MN
  clear hN_MN
  obtain ⟨hN_SP, hv_SP⟩ := WT_rngI (r := ((-2147483648), 2147483647)) hW id rfl ha_SP
  clear hN_SP
  obtain ⟨hN_RW, hv_RW⟩ := WT_rngI (r := ((-2147483648), 2147483647)) hW id rfl ha_RW
  clear hN_RW
  obtain ⟨hN_PX, hv_PX⟩ := WT_rngI (r := ((-2147483648), 2147483647)) hW id rfl ha_PX
  clear hN_PX
  obtain ⟨hN_PY, hv_PY⟩ := WT_rngI (r := ((-2147483648), 2147483647)) hW id rfl ha_PY
  clear hN_PY
  obtain ⟨hN_PZ, hv_PZ⟩ := WT_rngI (r := ((-2147483648), 2147483647)) hW id rfl ha_PZ
  clear hN_PZ
  refine J_aload_n dX7_place_0 rfl ?_
  refine J_iload_n dX7_place_1 rfl ?_
  refine Jw_callV1 (q9 := (RX7, TX7, 34)) moX7_isWalk jw_ml_X7_130 jw_im_X7_isWalk jw_se_X7_isWalk ha0 rfl rfl dX7_place_2 (w_X7_isWalk_z (d - 1) _ a0 x1 v0 (by omega) hW  ha0 ⟨_, hO_a0, hF_v0⟩) (by omega) (Nat.zero_le _) (Nat.zero_le _) (Nat.le_of_ble_eq_true rfl) (fun r2 V2 h2 => ?_)
  obtain ⟨⟨y2, rfl, hl2, hh2, hP2_0⟩, hE2⟩ := h2
  have hE2 := hE2.symm
  subst hE2
  refine Jz_if_eq (tgt := 31) jEq.rf dX7_place_5 (by decide) (fun c5 => ?_) (fun c5 => ?_)
  · refine Jz_sipush (-1000) dX7_place_31 (by decide) (fun y31 he31 => ?_)
    exact J_ret (r := some (.int _)) dX7_place_34 ⟨rfl, _, rfl, rfl⟩ (⟨⟨_, rfl, (j_rng _).1, (j_rng _).2, (by (try simp only [he31.eq, true_and, and_true]) <;> omega)⟩, rfl⟩)
  · refine J_iload_n dX7_place_8 rfl ?_
    refine Jz_iconst 0 dX7_place_9 (by decide) (fun y9 he9 => ?_)
    refine J_aload_n dX7_place_10 rfl ?_
    refine J_get jf_X7_13 dX7_place_11 hO_a0 hF_mn ?_
    refine J_iload_n dX7_place_14 rfl ?_
    refine Jz_iald (r := (0, 60)) jEq.rf dX7_place_15 ha_MN rfl hv_MN (by omega) (by omega) (fun y15 hf15 hl15 hh15 => ?_)
    dsimp only at hl15 hh15
    have hq15 : (MN x1.toInt.toNat).toInt = y15.toInt := by rw [hf15]
    refine J_callS3 moX7_in jw_ml_X7_105 jw_st_X7_in dX7_place_16 (w_X7_in (d - 1) _ x2 y9 y15 (by omega)   ) (by omega) (Nat.zero_le _) (Nat.zero_le _) (Nat.le_of_ble_eq_true rfl) (fun r16 V16 h16 => ?_)
    obtain ⟨⟨y16, rfl, hl16, hh16, hI16_0, hI16_1⟩, hE16⟩ := h16
    have hE16 := hE16.symm
    subst hE16
    refine Jz_if_eq (tgt := 31) jEq.rf dX7_place_19 (by decide) (fun c19 => ?_) (fun c19 => ?_)
    · have q19_1 := hI16_1.of (by omega)
      try simp only [he9.eq] at q19_1
      refine Jz_sipush (-1000) dX7_place_31 (by decide) (fun y31 he31 => ?_)
      exact J_ret (r := some (.int _)) dX7_place_34 ⟨rfl, _, rfl, rfl⟩ (⟨⟨_, rfl, (j_rng _).1, (j_rng _).2, (by (try simp only [he31.eq, true_and, and_true]) <;> omega)⟩, rfl⟩)
    · have q19_0 := hI16_0.of (by omega)
      try simp only [he9.eq] at q19_0
      refine J_iload_n dX7_place_22 rfl ?_
      refine Jz_iconst 0 dX7_place_23 (by decide) (fun y23 he23 => ?_)
      refine Jz_iconst 2 dX7_place_24 (by decide) (fun y24 he24 => ?_)
      refine J_callS3 moX7_in jw_ml_X7_105 jw_st_X7_in dX7_place_25 (w_X7_in (d - 1) _ x3 y23 y24 (by omega)   ) (by omega) (Nat.zero_le _) (Nat.zero_le _) (Nat.le_of_ble_eq_true rfl) (fun r25 V25 h25 => ?_)
      obtain ⟨⟨y25, rfl, hl25, hh25, hI25_0, hI25_1⟩, hE25⟩ := h25
      have hE25 := hE25.symm
      subst hE25
      refine Jz_if_ne (tgt := 35) jEq.rf dX7_place_28 (by decide) (fun c28 => ?_) (fun c28 => ?_)
      · have q28_0 := hI25_0.of (by omega)
        try simp only [he23.eq, he24.eq] at q28_0
        exact False.elim (by omega)
      · have q28_1 := hI25_1.of (by omega)
        try simp only [he23.eq, he24.eq] at q28_1
        refine Jz_sipush (-1000) dX7_place_31 (by decide) (fun y31 he31 => ?_)
        exact J_ret (r := some (.int _)) dX7_place_34 ⟨rfl, _, rfl, rfl⟩ (⟨⟨_, rfl, (j_rng _).1, (j_rng _).2, (by (try simp only [he31.eq, true_and, and_true]) <;> omega)⟩, rfl⟩)
set_option maxRecDepth 100000 in
set_option maxHeartbeats 8000000 in
theorem w_X7_digest_z {tS : jTS} (d : Nat) (V0 : jH) (a0 : Nat) (v0 : Int32) (wd : Int32) (hg : Int32) (gr : Nat) (mn : Nat) (sp : Nat) (rh : Nat) (cn : Int32) (GA : Nat → Int32) (MN : Nat → Int32) (SP : Nat → Int32) (H43 : Nat → Int32) (hd : 2 ≤ d) (hW : WT V0) (ha0 : jis V0 (.inr 5) a0) (hf_v0 : jfI V0 a0 5 0 v0) (hf_wd : jfI V0 a0 5 23 wd) (hf_hg : jfI V0 a0 5 24 hg) (hr_gr : jfR V0 a0 5 1 gr) (hr_mn : jfR V0 a0 5 2 mn) (hr_sp : jfR V0 a0 5 3 sp) (hr_rh : jfR V0 a0 5 25 rh) (ha_GA : V0 gr = some (.inl (14, 16, .inl GA))) (ha_MN : V0 mn = some (.inl (15, 16, .inl MN))) (ha_SP : V0 sp = some (.inl (16, 960, .inl SP))) (ha_H43 : V0 rh = some (.inl (43, 36, .inl H43))) (hp0 : 2 ≤ wd.toInt) (hp1 : wd.toInt ≤ 6) (hp2 : 2 ≤ hg.toInt) (hp3 : hg.toInt ≤ 6) (hp4 : cn.toInt = ((jcn 1 H43 (wd.toInt * hg.toInt).toNat : Nat) : Int)) : jTot tS mX7_digest d [.ref a0] V0 0 0 (fun r V => (fun r _ => ∃ y : Int64, r = some (.long y) ∧ (y = jdh (fun q : Nat => decide (¬ (H43 q).toInt = 0)) (wd.toInt.toNat * hg.toInt.toNat) (jdw GA MN SP v0.toInt.toNat (jdg (jC4 v0 cn wd hg) 4 107)))) r V ∧ V = V0) := by
  refine jTot.of_J [some (.ref a0), none, none, none, none] moX7_digest (Nat.le_of_ble_eq_true rfl) rfl ?_
  have he : jeff [] V0 V0 := jeff.refl _ _
  obtain ⟨fs_a0, hO_a0, hK_a0⟩ := WT_obj hW id ha0
  have hF_v0 := hf_v0.get hO_a0
  have hrv0 : 0 ≤ v0.toInt ∧ v0.toInt ≤ 16 := jok_rngI hK_a0 rfl hF_v0
  have hF_wd := hf_wd.get hO_a0
  have hrwd : 2 ≤ wd.toInt ∧ wd.toInt ≤ 6 := jok_rngI hK_a0 rfl hF_wd
  have hF_hg := hf_hg.get hO_a0
  have hrhg : 2 ≤ hg.toInt ∧ hg.toInt ≤ 6 := jok_rngI hK_a0 rfl hF_hg
  have hF_gr := hr_gr.get hO_a0
  obtain ⟨w_gr, hFq_gr, b_gr, hbq_gr, hb_gr⟩ := hK_a0.2 1 (.inr (some (.inl 14))) rfl
  cases hF_gr.symm.trans (hFq_gr.trans (congrArg some hbq_gr))
  have hF_mn := hr_mn.get hO_a0
  obtain ⟨w_mn, hFq_mn, b_mn, hbq_mn, hb_mn⟩ := hK_a0.2 2 (.inr (some (.inl 15))) rfl
  cases hF_mn.symm.trans (hFq_mn.trans (congrArg some hbq_mn))
  have hF_sp := hr_sp.get hO_a0
  obtain ⟨w_sp, hFq_sp, b_sp, hbq_sp, hb_sp⟩ := hK_a0.2 3 (.inr (some (.inl 16))) rfl
  cases hF_sp.symm.trans (hFq_sp.trans (congrArg some hbq_sp))
  have hF_rh := hr_rh.get hO_a0
  obtain ⟨w_rh, hFq_rh, b_rh, hbq_rh, hb_rh⟩ := hK_a0.2 25 (.inr (some (.inl 43))) rfl
  cases hF_rh.symm.trans (hFq_rh.trans (congrArg some hbq_rh))
  obtain ⟨hN_GA, hv_GA⟩ := WT_rngI (r := (0, 3)) hW id rfl ha_GA
  clear hN_GA
  obtain ⟨hN_MN, hv_MN⟩ := WT_rngI (r := (0, 60)) hW id rfl ha_MN
  clear hN_MN
  obtain ⟨hN_SP, hv_SP⟩ := WT_rngI (r := ((-2147483648), 2147483647)) hW id rfl ha_SP
  clear hN_SP
  obtain ⟨hN_H43, hv_H43⟩ := WT_rngI (r := (0, 1)) hW id rfl ha_H43
  clear hN_H43
  refine J_ldc2 jw_k_X7_233 dX7_digest_0 ?_
  refine J_lstore_n dX7_digest_3 rfl (by decide) ?_
  refine Jz_iconst 0 dX7_digest_4 (by decide) (fun y4 he4 => ?_)
  refine J_istore_n dX7_digest_5 rfl (by decide) ?_
  have L6 : ∀ (N : Nat) (i1n6 : Int64) (i3n6 : Int32), (0 ≤ i3n6.toInt ∧ i3n6.toInt ≤ 4) → (i1n6 = jdg (jC4 v0 cn wd hg) i3n6.toInt.toNat 107) → (300 - i3n6.toInt).toNat < N → J tS mX7_digest d 6 [some (.ref a0), some (.long i1n6), none, some (.int i3n6), none] [] V0 0 0 (fun r V => (fun r _ => ∃ y : Int64, r = some (.long y) ∧ (y = jdh (fun q : Nat => decide (¬ (H43 q).toInt = 0)) (wd.toInt.toNat * hg.toInt.toNat) (jdw GA MN SP v0.toInt.toNat (jdg (jC4 v0 cn wd hg) 4 107)))) r V ∧ V = V0) := by
    intro N
    induction N with
    | zero => intro i1n6 i3n6  hi3 hh hm; exact absurd hm (Nat.not_lt_zero _)
    | succ N ih =>
      intro i1n6 i3n6  hi3 hh hm
      have ih6 := ih
      have hri3 := j_rng i3n6
      refine J_iload_n dX7_digest_6 rfl ?_
      refine Jz_iconst 4 dX7_digest_7 (by decide) (fun y7 he7 => ?_)
      refine Jz_icmp_ge (tgt := 30) jEq.rf he7 dX7_digest_8 (by decide) (fun c8 => ?_) (fun c8 => ?_)
      · refine Jz_iconst 0 dX7_digest_30 (by decide) (fun y30 he30 => ?_)
        refine J_istore_n dX7_digest_31 rfl (by decide) ?_
        have L32 : ∀ (N : Nat) (i1n32 : Int64) (i3n32 : Int32), (0 ≤ i3n32.toInt ∧ i3n32.toInt ≤ v0.toInt) → (i1n32 = jdw GA MN SP i3n32.toInt.toNat (jdg (jC4 v0 cn wd hg) 4 107)) → (300 - i3n32.toInt).toNat < N → J tS mX7_digest d 32 [some (.ref a0), some (.long i1n32), none, some (.int i3n32), none] [] V0 0 0 (fun r V => (fun r _ => ∃ y : Int64, r = some (.long y) ∧ (y = jdh (fun q : Nat => decide (¬ (H43 q).toInt = 0)) (wd.toInt.toNat * hg.toInt.toNat) (jdw GA MN SP v0.toInt.toNat (jdg (jC4 v0 cn wd hg) 4 107)))) r V ∧ V = V0) := by
          intro N
          induction N with
          | zero => intro i1n32 i3n32  hi3b hh2 hm; exact absurd hm (Nat.not_lt_zero _)
          | succ N ih =>
            intro i1n32 i3n32  hi3b hh2 hm
            have ih32 := ih
            have hri3 := j_rng i3n32
            refine J_iload_n dX7_digest_32 rfl ?_
            refine J_aload_n dX7_digest_33 rfl ?_
            refine J_get jf_X7_102 dX7_digest_34 hO_a0 hF_v0 ?_
            refine Jz_icmp_ge (tgt := 100) jEq.rf jEq.rf dX7_digest_37 (by decide) (fun c37 => ?_) (fun c37 => ?_)
            · refine Jz_iconst 0 dX7_digest_100 (by decide) (fun y100 he100 => ?_)
              refine J_istore_n dX7_digest_101 rfl (by decide) ?_
              have L102 : ∀ (N : Nat) (i1n102 : Int64) (i3n102 : Int32), (0 ≤ i3n102.toInt ∧ i3n102.toInt ≤ wd.toInt * hg.toInt) → (i1n102 = jdh (fun q : Nat => decide (¬ (H43 q).toInt = 0)) i3n102.toInt.toNat (jdw GA MN SP v0.toInt.toNat (jdg (jC4 v0 cn wd hg) 4 107))) → (300 - i3n102.toInt).toNat < N → J tS mX7_digest d 102 [some (.ref a0), some (.long i1n102), none, some (.int i3n102), none] [] V0 0 0 (fun r V => (fun r _ => ∃ y : Int64, r = some (.long y) ∧ (y = jdh (fun q : Nat => decide (¬ (H43 q).toInt = 0)) (wd.toInt.toNat * hg.toInt.toNat) (jdw GA MN SP v0.toInt.toNat (jdg (jC4 v0 cn wd hg) 4 107)))) r V ∧ V = V0) := by
                intro N
                induction N with
                | zero => intro i1n102 i3n102  hi3c hh4 hm; exact absurd hm (Nat.not_lt_zero _)
                | succ N ih =>
                  intro i1n102 i3n102  hi3c hh4 hm
                  have ih102 := ih
                  have hri3 := j_rng i3n102
                  have hm2 := Int.mul_nonneg (show 0 ≤ wd.toInt by omega) (show 0 ≤ hg.toInt by omega)
                  have hm3 := Int.mul_le_mul_of_nonneg_left (show hg.toInt ≤ 6 by omega) (show 0 ≤ wd.toInt by omega)
                  have hmc := jcell_nat2 (w := wd.toInt) (y := hg.toInt) (by omega) (by omega)
                  refine J_iload_n dX7_digest_102 rfl ?_
                  refine J_aload_n dX7_digest_103 rfl ?_
                  refine J_get jf_X7_73 dX7_digest_104 hO_a0 hF_wd ?_
                  refine J_aload_n dX7_digest_107 rfl ?_
                  refine J_get jf_X7_77 dX7_digest_108 hO_a0 hF_hg ?_
                  refine Jz_imul jEq.rf jEq.rf dX7_digest_111 (by omega) (by omega) (fun y111 he111 => ?_)
                  refine Jz_icmp_ge (tgt := 143) jEq.rf he111 dX7_digest_112 (by decide) (fun c112 => ?_) (fun c112 => ?_)
                  · refine J_lload_n dX7_digest_143 rfl ?_
                    exact J_ret (r := some (.long _)) dX7_digest_144 ⟨rfl, rfl⟩ (⟨⟨_, rfl, (by rw [show wd.toInt.toNat * hg.toInt.toNat = i3n102.toInt.toNat by omega]; exact hh4)⟩, rfl⟩)
                  · refine J_aload_n dX7_digest_115 rfl ?_
                    refine J_get jf_X7_80 dX7_digest_116 hO_a0 hF_rh ?_
                    refine J_iload_n dX7_digest_119 rfl ?_
                    refine Jz_zald (r := (0, 1)) jEq.rf dX7_digest_120 ha_H43 rfl hv_H43 (by omega) (by omega) (fun y120 hf120 hl120 hh120 => ?_)
                    dsimp only at hl120 hh120
                    refine Jz_if_eq (tgt := 135) jEq.rf dX7_digest_121 (by decide) (fun c121 => ?_) (fun c121 => ?_)
                    · refine J_lload_n dX7_digest_135 rfl ?_
                      refine J_lstore_n dX7_digest_136 rfl (by decide) ?_
                      refine Jz_iinc 1 dX7_digest_137 rfl rfl (by decide) jEq.rf (by decide) (by omega) (by omega) (fun y137 he137 => ?_)
                      refine J_goto (tgt := 102) dX7_digest_140 (by decide) ?_
                      refine J.mask [true, true, false, true, false] ?_
                      exact ih102  i1n102 y137  (by (try simp only [he137.eq, true_and, and_true]) <;> omega) (by rw [he137.eq, show (i3n102.toInt + 1).toNat = i3n102.toInt.toNat + 1 by omega, jdh_no (by rw [hf120]; exact decide_eq_false (fun z => z c121))]; exact hh4) (by (try simp only [he137.eq, true_and, and_true]) <;> omega)
                    · refine J_ldc2 jw_k_X7_235 dX7_digest_124 ?_
                      refine J_lload_n dX7_digest_127 rfl ?_
                      refine J_lmul dX7_digest_128 ?_
                      refine J_iload_n dX7_digest_129 rfl ?_
                      refine J_i2l dX7_digest_130 rfl ?_
                      refine J_ladd dX7_digest_131 ?_
                      refine J_goto (tgt := 136) dX7_digest_132 (by decide) ?_
                      refine J_lstore_n dX7_digest_136 rfl (by decide) ?_
                      refine Jz_iinc 1 dX7_digest_137 rfl rfl (by decide) jEq.rf (by decide) (by omega) (by omega) (fun y137 he137 => ?_)
                      refine J_goto (tgt := 102) dX7_digest_140 (by decide) ?_
                      refine J.mask [true, true, false, true, false] ?_
                      exact ih102  (((31 : Int64) * i1n102) + i3n102.toInt64) y137  (by (try simp only [he137.eq, true_and, and_true]) <;> omega) (by rw [he137.eq, show (i3n102.toInt + 1).toNat = i3n102.toInt.toNat + 1 by omega, jdh_yes (v := i3n102) (by rw [hf120]; exact decide_eq_true c121) (by omega) (by omega), ← hh4]) (by (try simp only [he137.eq, true_and, and_true]) <;> omega)
              refine J.mask [true, true, false, true, false] ?_
              exact L102 _  i1n32 y100    (by rw [he100.eq]; have hm2 := Int.mul_nonneg (show 0 ≤ wd.toInt by omega) (show 0 ≤ hg.toInt by omega); omega) (by rw [he100.eq]; have e : i3n32.toInt.toNat = v0.toInt.toNat := (by omega); rw [e] at hh2; exact hh2) (Nat.lt_succ_self _)
            · refine J_ldc2 jw_k_X7_235 dX7_digest_40 ?_
              refine J_lload_n dX7_digest_43 rfl ?_
              refine J_lmul dX7_digest_44 ?_
              refine J_aload_n dX7_digest_45 rfl ?_
              refine J_get jf_X7_7 dX7_digest_46 hO_a0 hF_gr ?_
              refine J_iload_n dX7_digest_49 rfl ?_
              refine Jz_iald (r := (0, 3)) jEq.rf dX7_digest_50 ha_GA rfl hv_GA (by omega) (by omega) (fun y50 hf50 hl50 hh50 => ?_)
              dsimp only at hl50 hh50
              refine J_i2l dX7_digest_51 rfl ?_
              refine J_ladd dX7_digest_52 ?_
              refine J_lstore_n dX7_digest_53 rfl (by decide) ?_
              refine Jz_iconst 0 dX7_digest_54 (by decide) (fun y54 he54 => ?_)
              refine J_istore dX7_digest_55 rfl (by decide) ?_
              have L57 : ∀ (N : Nat) (i1n57 : Int64) (i4n57 : Int32), (0 ≤ i4n57.toInt ∧ i4n57.toInt ≤ (MN i3n32.toInt.toNat).toInt) → (i1n57 = jdg (fun q => SP (60 * i3n32.toInt.toNat + q)) i4n57.toInt.toNat (31 * jdw GA MN SP i3n32.toInt.toNat (jdg (jC4 v0 cn wd hg) 4 107) + (GA i3n32.toInt.toNat).toInt64)) → (300 - i4n57.toInt).toNat < N → J tS mX7_digest d 57 [some (.ref a0), some (.long i1n57), none, some (.int i3n32), some (.int i4n57)] [] V0 0 0 (fun r V => (fun r _ => ∃ y : Int64, r = some (.long y) ∧ (y = jdh (fun q : Nat => decide (¬ (H43 q).toInt = 0)) (wd.toInt.toNat * hg.toInt.toNat) (jdw GA MN SP v0.toInt.toNat (jdg (jC4 v0 cn wd hg) 4 107)))) r V ∧ V = V0) := by
                intro N
                induction N with
                | zero => intro i1n57 i4n57  hi4 hh3 hm; exact absurd hm (Nat.not_lt_zero _)
                | succ N ih =>
                  intro i1n57 i4n57  hi4 hh3 hm
                  have ih57 := ih
                  have hri4 := j_rng i4n57
                  have hmr2 := hv_MN i3n32.toInt.toNat (by omega)
                  dsimp only at hmr2
                  refine J_iload dX7_digest_57 rfl ?_
                  refine J_aload_n dX7_digest_59 rfl ?_
                  refine J_get jf_X7_13 dX7_digest_60 hO_a0 hF_mn ?_
                  refine J_iload_n dX7_digest_63 rfl ?_
                  refine Jz_iald (r := (0, 60)) jEq.rf dX7_digest_64 ha_MN rfl hv_MN (by omega) (by omega) (fun y64 hf64 hl64 hh64 => ?_)
                  dsimp only at hl64 hh64
                  have hq64 : (MN i3n32.toInt.toNat).toInt = y64.toInt := by rw [hf64]
                  refine Jz_icmp_ge (tgt := 94) jEq.rf jEq.rf dX7_digest_65 (by decide) (fun c65 => ?_) (fun c65 => ?_)
                  · refine Jz_iinc 1 dX7_digest_94 rfl rfl (by decide) jEq.rf (by decide) (by omega) (by omega) (fun y94 he94 => ?_)
                    refine J_goto (tgt := 32) dX7_digest_97 (by decide) ?_
                    refine J.mask [true, true, false, true, false] ?_
                    exact ih32  i1n57 y94  (by (try simp only [he94.eq, true_and, and_true]) <;> omega) (by rw [he94.eq, show (i3n32.toInt + 1).toNat = i3n32.toInt.toNat + 1 by omega]; show _ = jdg _ (MN i3n32.toInt.toNat).toInt.toNat _; rw [show (MN i3n32.toInt.toNat).toInt.toNat = i4n57.toInt.toNat by omega]; exact hh3) (by (try simp only [he94.eq, true_and, and_true]) <;> omega)
                  · refine J_ldc2 jw_k_X7_235 dX7_digest_68 ?_
                    refine J_lload_n dX7_digest_71 rfl ?_
                    refine J_lmul dX7_digest_72 ?_
                    refine J_aload_n dX7_digest_73 rfl ?_
                    refine J_get jf_X7_16 dX7_digest_74 hO_a0 hF_sp ?_
                    refine Jz_bipush 60 dX7_digest_77 (by decide) (fun y77 he77 => ?_)
                    refine J_iload_n dX7_digest_79 rfl ?_
                    refine Jz_imul he77 jEq.rf dX7_digest_80 (by omega) (by omega) (fun y80 he80 => ?_)
                    refine J_iload dX7_digest_81 rfl ?_
                    refine Jz_iadd he80 jEq.rf dX7_digest_83 (by omega) (by omega) (fun y83 he83 => ?_)
                    refine Jz_iald (r := ((-2147483648), 2147483647)) he83 dX7_digest_84 ha_SP rfl hv_SP (by omega) (by omega) (fun y84 hf84 hl84 hh84 => ?_)
                    dsimp only at hl84 hh84
                    clear hl84 hh84
                    refine J_i2l dX7_digest_85 rfl ?_
                    refine J_ladd dX7_digest_86 ?_
                    refine J_lstore_n dX7_digest_87 rfl (by decide) ?_
                    refine Jz_iinc 1 dX7_digest_88 rfl rfl (by decide) jEq.rf (by decide) (by omega) (by omega) (fun y88 he88 => ?_)
                    refine J_goto (tgt := 57) dX7_digest_91 (by decide) ?_
                    refine J.mask [true, true, false, true, true] ?_
                    exact ih57  (((31 : Int64) * i1n57) + y84.toInt64) y88  (by (try simp only [he88.eq, true_and, and_true]) <;> omega) (by rw [he88.eq, show (i4n57.toInt + 1).toNat = i4n57.toInt.toNat + 1 by omega]; show _ = 31 * jdg _ i4n57.toInt.toNat _ + (SP (60 * i3n32.toInt.toNat + i4n57.toInt.toNat)).toInt64; rw [← hh3, ← hf84, show (60 * i3n32.toInt + i4n57.toInt).toNat = 60 * i3n32.toInt.toNat + i4n57.toInt.toNat by omega]) (by (try simp only [he88.eq, true_and, and_true]) <;> omega)
              refine J.mask [true, true, false, true, true] ?_
              exact L57 _  (((31 : Int64) * i1n32) + y50.toInt64) y54    (by rw [he54.eq]; have hmr2 := hv_MN i3n32.toInt.toNat (by omega); dsimp only at hmr2; omega) (by rw [he54.eq, hh2, ← hf50]; rfl) (Nat.lt_succ_self _)
        refine J.mask [true, true, false, true, false] ?_
        exact L32 _  i1n6 y30    (by (try simp only [he30.eq, true_and, and_true]) <;> omega) (by rw [he30.eq]; have e : i3n6.toInt.toNat = 4 := (by omega); rw [e] at hh; exact hh) (Nat.lt_succ_self _)
      · refine J_ldc2 jw_k_X7_235 dX7_digest_11 ?_
        refine J_lload_n dX7_digest_14 rfl ?_
        refine J_lmul dX7_digest_15 ?_
        refine J_aload_n dX7_digest_16 rfl ?_
        refine J_iload_n dX7_digest_17 rfl ?_
        refine Jw_callV1 (q9 := (RX7, TX7, 34)) moX7_count jw_ml_X7_237 jw_im_X7_count jw_se_X7_count ha0 rfl rfl dX7_digest_18 (w_X7_count_z (d - 1) _ a0 i3n6 v0 wd hg rh H43 (by omega) hW  ha0 ⟨_, hO_a0, hF_v0⟩ ⟨_, hO_a0, hF_wd⟩ ⟨_, hO_a0, hF_hg⟩ ⟨_, hO_a0, hF_rh⟩ ha_H43 (by omega) (by omega) (by omega) (by omega)) (by omega) (Nat.zero_le _) (Nat.zero_le _) (Nat.le_of_ble_eq_true rfl) (fun r18 V18 h18 => ?_)
        obtain ⟨⟨y18, rfl, hl18, hh18, hP18_0⟩, hE18⟩ := h18
        have hE18 := hE18.symm
        subst hE18
        clear hl18 hh18
        have hcf : (jC4 v0 cn wd hg i3n6.toInt.toNat).toInt = y18.toInt := by unfold jC4; (repeat' split) <;> omega
        refine J_i2l dX7_digest_21 rfl ?_
        refine J_ladd dX7_digest_22 ?_
        refine J_lstore_n dX7_digest_23 rfl (by decide) ?_
        refine Jz_iinc 1 dX7_digest_24 rfl rfl (by decide) jEq.rf (by decide) (by omega) (by omega) (fun y24 he24 => ?_)
        refine J_goto (tgt := 6) dX7_digest_27 (by decide) ?_
        refine J.mask [true, true, false, true, false] ?_
        exact ih6  (((31 : Int64) * i1n6) + y18.toInt64) y24  (by (try simp only [he24.eq, true_and, and_true]) <;> omega) (by rw [he24.eq, show (i3n6.toInt + 1).toNat = i3n6.toInt.toNat + 1 by omega]; show _ = 31 * jdg (jC4 v0 cn wd hg) i3n6.toInt.toNat 107 + (jC4 v0 cn wd hg i3n6.toInt.toNat).toInt64; rw [← hh, jI_inj.mp hcf]) (by (try simp only [he24.eq, true_and, and_true]) <;> omega)
  refine J.mask [true, true, false, true, false] ?_
  exact L6 _  (107 : Int64) y4    (by (try simp only [he4.eq, true_and, and_true]) <;> omega) (by rw [he4.eq]; rfl) (Nat.lt_succ_self _)
set_option maxRecDepth 100000 in
set_option maxHeartbeats 8000000 in
theorem w_X7_tried_z {tS : jTS} (d : Nat) (V0 : jH) (a0 : Nat) (x1 : Int32) (x2 : Int32) (x3 : Int32) (x4 : Int32) (n : Int32) (rw : Nat) (RW : Nat → Int32) (hd : 2 ≤ d) (hW : WT V0) (ha0 : jis V0 (.inr 5) a0) (hl3 : 0 ≤ x3.toInt) (hh3 : x3.toInt ≤ 1) (hf_n : jfI V0 a0 5 5 n) (hr_rw : jfR V0 a0 5 4 rw) (ha_RW : V0 rw = some (.inl (17, 120, .inl RW))) (hp0 : 0 ≤ x1.toInt) (hp1 : x1.toInt ≤ 3) (hp2 : 0 ≤ x2.toInt) (hp3 : x2.toInt < jtur x1.toInt) (hp4 : 0 ≤ x4.toInt) (hp5 : x4.toInt < n.toInt) (hp6 : ∀ j : Nat, (j : Int) < n.toInt → 0 ≤ (RW j).toInt ∧ (RW j).toInt < jdir x1.toInt) : jTot tS mX7_tried d [.ref a0, .int x1, .int x2, .int x3, .int x4] V0 0 0 (fun r V => (fun r _ => ∃ y : Int32, r = some (.int y) ∧ ((-2147483648) ≤ y.toInt) ∧ (y.toInt ≤ 2147483647) ∧ (y.toInt = (jim x1.toInt (fun q => (RW q).toInt) n.toInt.toNat x2.toInt (decide (x3.toInt = 1)) x4.toInt.toNat))) r V ∧ V = V0) := by
  refine jTot.of_J [some (.ref a0), some (.int x1), some (.int x2), some (.int x3), some (.int x4)] moX7_tried (Nat.le_of_ble_eq_true rfl) rfl ?_
  have hrx1 := j_rng x1
  have hrx2 := j_rng x2
  have hrx4 := j_rng x4
  have he : jeff [] V0 V0 := jeff.refl _ _
  obtain ⟨fs_a0, hO_a0, hK_a0⟩ := WT_obj hW id ha0
  have hF_n := hf_n.get hO_a0
  have hrn : 0 ≤ n.toInt ∧ n.toInt ≤ 120 := jok_rngI hK_a0 rfl hF_n
  have hF_rw := hr_rw.get hO_a0
  obtain ⟨w_rw, hFq_rw, b_rw, hbq_rw, hb_rw⟩ := hK_a0.2 4 (.inr (some (.inl 17))) rfl
  cases hF_rw.symm.trans (hFq_rw.trans (congrArg some hbq_rw))
  obtain ⟨hN_RW, hv_RW⟩ := WT_rngI (r := ((-2147483648), 2147483647)) hW id rfl ha_RW
  clear hN_RW
  have hjd := jdir_cases x1.toInt
  refine J_iload_n dX7_tried_0 rfl ?_
  refine J_iload_n dX7_tried_1 rfl ?_
  refine J_iload_n dX7_tried_2 rfl ?_
  refine Jz_if_eq (tgt := 27) jEq.rf dX7_tried_3 (by decide) (fun c3 => ?_) (fun c3 => ?_)
  · refine J_aload_n dX7_tried_27 rfl ?_
    refine J_get jf_X7_19 dX7_tried_28 hO_a0 hF_rw ?_
    refine J_iload dX7_tried_31 rfl ?_
    refine Jz_iald (r := ((-2147483648), 2147483647)) jEq.rf dX7_tried_33 ha_RW rfl hv_RW (by omega) (by omega) (fun y33 hf33 hl33 hh33 => ?_)
    dsimp only at hl33 hh33
    clear hl33 hh33
    have hq33 : (RW x4.toInt.toNat).toInt = y33.toInt := by rw [hf33]
    have hsd := hp6 x4.toInt.toNat (by omega)
    rw [hq33] at hsd
    refine J_callS3 moX7_turned jw_ml_X7_146 jw_st_X7_turned dX7_tried_34 (w_X7_turned_z (d - 1) _ x1 x2 y33 (by omega)   (by omega) (by omega) (by omega) (by omega) (by omega) (by omega)) (by omega) (Nat.zero_le _) (Nat.zero_le _) (Nat.le_of_ble_eq_true rfl) (fun r34 V34 h34 => ?_)
    obtain ⟨⟨y34, rfl, hl34, hh34, hP34_0⟩, hE34⟩ := h34
    have hE34 := hE34.symm
    subst hE34
    clear hl34 hh34
    have hz34 : jEq y34.toInt (jtn (x1.toInt) (x2.toInt) (y33.toInt)) := hP34_0
    clear hP34_0
    exact J_ret (r := some (.int _)) dX7_tried_37 ⟨rfl, _, rfl, rfl⟩ (⟨⟨_, rfl, (j_rng _).1, (j_rng _).2, (by rw [hz34.eq]; unfold jim; first | (rw [show decide (x3.toInt = 1) = true from decide_eq_true (by omega)]; (show jtn _ _ _ = jtn _ _ (jopp _ (RW _).toInt)); rw [← hq20, show (n.toInt - 1 - x4.toInt).toNat = n.toInt.toNat - 1 - x4.toInt.toNat by omega]) | (rw [show decide (x3.toInt = 1) = false from decide_eq_false (by omega)]; (show jtn _ _ _ = jtn _ _ (RW _).toInt); rw [← hq33]))⟩, rfl⟩)
  · refine J_iload_n dX7_tried_6 rfl ?_
    refine J_aload_n dX7_tried_7 rfl ?_
    refine J_get jf_X7_19 dX7_tried_8 hO_a0 hF_rw ?_
    refine J_aload_n dX7_tried_11 rfl ?_
    refine J_get jf_X7_109 dX7_tried_12 hO_a0 hF_n ?_
    refine Jz_iconst 1 dX7_tried_15 (by decide) (fun y15 he15 => ?_)
    refine Jz_isub jEq.rf he15 dX7_tried_16 (by omega) (by omega) (fun y16 he16 => ?_)
    refine J_iload dX7_tried_17 rfl ?_
    refine Jz_isub he16 jEq.rf dX7_tried_19 (by omega) (by omega) (fun y19 he19 => ?_)
    refine Jz_iald (r := ((-2147483648), 2147483647)) he19 dX7_tried_20 ha_RW rfl hv_RW (by omega) (by omega) (fun y20 hf20 hl20 hh20 => ?_)
    dsimp only at hl20 hh20
    clear hl20 hh20
    have hq20 : (RW (n.toInt - 1 - x4.toInt).toNat).toInt = y20.toInt := by rw [hf20]
    have hsd := hp6 (n.toInt - 1 - x4.toInt).toNat (by omega)
    rw [hq20] at hsd
    refine J_callS2 moX7_opposite jw_ml_X7_149 jw_st_X7_opposite dX7_tried_21 (w_X7_opposite_z (d - 1) _ x1 y20 (by omega)   (by omega) (by omega) (by omega) (by omega)) (by omega) (Nat.zero_le _) (Nat.zero_le _) (Nat.le_of_ble_eq_true rfl) (fun r21 V21 h21 => ?_)
    obtain ⟨⟨y21, rfl, hl21, hh21, hP21_0⟩, hE21⟩ := h21
    have hE21 := hE21.symm
    subst hE21
    clear hl21 hh21
    have hz21 : jEq y21.toInt (jopp (x1.toInt) (y20.toInt)) := hP21_0
    clear hP21_0
    have hob := jopp_b (g := x1.toInt) (d := y20.toInt) (by omega) (by omega)
    refine J_goto (tgt := 34) dX7_tried_24 (by decide) ?_
    refine J_callS3 moX7_turned jw_ml_X7_146 jw_st_X7_turned dX7_tried_34 (w_X7_turned_z (d - 1) _ x1 x2 y21 (by omega)   (by omega) (by omega) (by omega) (by omega) (by (try simp only [hz21.eq, true_and, and_true]) <;> omega) (by (try simp only [hz21.eq, true_and, and_true]) <;> omega)) (by omega) (Nat.zero_le _) (Nat.zero_le _) (Nat.le_of_ble_eq_true rfl) (fun r34 V34 h34 => ?_)
    obtain ⟨⟨y34, rfl, hl34, hh34, hP34_0⟩, hE34⟩ := h34
    have hE34 := hE34.symm
    subst hE34
    clear hl34 hh34
    try simp only [hz21.eq] at hP34_0
    have hz34 : jEq y34.toInt (jtn (x1.toInt) (x2.toInt) (jopp (x1.toInt) (y20.toInt))) := hP34_0
    clear hP34_0
    exact J_ret (r := some (.int _)) dX7_tried_37 ⟨rfl, _, rfl, rfl⟩ (⟨⟨_, rfl, (j_rng _).1, (j_rng _).2, (by rw [hz34.eq]; unfold jim; first | (rw [show decide (x3.toInt = 1) = true from decide_eq_true (by omega)]; (show jtn _ _ _ = jtn _ _ (jopp _ (RW _).toInt)); rw [← hq20, show (n.toInt - 1 - x4.toInt).toNat = n.toInt.toNat - 1 - x4.toInt.toNat by omega]) | (rw [show decide (x3.toInt = 1) = false from decide_eq_false (by omega)]; (show jtn _ _ _ = jtn _ _ (RW _).toInt); rw [← hq33]))⟩, rfl⟩)
set_option maxRecDepth 100000 in
set_option maxHeartbeats 8000000 in
theorem w_X7_findForm_z {tS : jTS} (d : Nat) (V0 : jH) (a0 : Nat) (x1 : Int32) (n : Int32) (rw : Nat) (fm : Nat) (RW : Nat → Int32) (FM : Nat → Int32) (hd : 3 ≤ d) (hW : WT V0) (ha0 : jis V0 (.inr 5) a0) (hf_n : jfI V0 a0 5 5 n) (hr_rw : jfR V0 a0 5 4 rw) (hr_fm : jfR V0 a0 5 9 fm) (ha_RW : V0 rw = some (.inl (17, 120, .inl RW))) (ha_FM : V0 fm = some (.inl (21, 60, .inl FM))) (hp0 : 0 ≤ x1.toInt) (hp1 : x1.toInt ≤ 3) (hp2 : n.toInt ≤ 60) (hp3 : ∀ j : Nat, (j : Int) < n.toInt → 0 ≤ (RW j).toInt ∧ (RW j).toInt < jdir x1.toInt) : jTot tS mX7_findForm d [.ref a0, .int x1] V0 0 0 (fun r V => (jPost [.inl 21] V0 rV) r V ∧ (∃ F2 : Nat → Int32, V fm = some (.inl (21, 60, .inl F2)) ∧ ∀ j : Nat, j < n.toInt.toNat → (F2 j).toInt = jbs x1.toInt (fun q => (RW q).toInt) n.toInt.toNat (2 * jtur x1.toInt).toNat j)) := by
  refine jTot.of_J [some (.ref a0), some (.int x1), none, none, none, none, none] moX7_findForm (Nat.le_of_ble_eq_true rfl) rfl ?_
  have hrx1 := j_rng x1
  have he : jeff [.inl 21] V0 V0 := jeff.refl _ _
  obtain ⟨fs_a0, hO_a0, hK_a0⟩ := WT_obj hW id ha0
  have hF_n := hf_n.get hO_a0
  have hrn : 0 ≤ n.toInt ∧ n.toInt ≤ 120 := jok_rngI hK_a0 rfl hF_n
  have hF_rw := hr_rw.get hO_a0
  obtain ⟨w_rw, hFq_rw, b_rw, hbq_rw, hb_rw⟩ := hK_a0.2 4 (.inr (some (.inl 17))) rfl
  cases hF_rw.symm.trans (hFq_rw.trans (congrArg some hbq_rw))
  have hF_fm := hr_fm.get hO_a0
  obtain ⟨w_fm, hFq_fm, b_fm, hbq_fm, hb_fm⟩ := hK_a0.2 9 (.inr (some (.inl 21))) rfl
  cases hF_fm.symm.trans (hFq_fm.trans (congrArg some hbq_fm))
  obtain ⟨hN_RW, hv_RW⟩ := WT_rngI (r := ((-2147483648), 2147483647)) hW id rfl ha_RW
  clear hN_RW
  obtain ⟨hN_FM, hv_FM⟩ := WT_rngI (r := ((-2147483648), 2147483647)) hW id rfl ha_FM
  clear hN_FM
  have hjd := jdir_cases x1.toInt
  have htc := jtur_cases x1.toInt
  refine Jz_iconst 0 dX7_findForm_0 (by decide) (fun y0 he0 => ?_)
  refine J_istore_n dX7_findForm_1 rfl (by decide) ?_
  have L2 : ∀ (N : Nat) (V : jH) (i2n2 : Int32) (F21n2 : Nat → Int32), WT V → jeff [.inl 21] V0 V → (jis V (.inr 5) a0) → (jis V (.inl 17) rw) → (jis V (.inl 21) fm) → (V a0 = some (.inr (5, fs_a0))) → (jokO V (jFs 5) fs_a0) → (V fm = some (.inl (21, 60, .inl F21n2))) → (V rw = some (.inl (17, 120, .inl RW))) → (0 ≤ i2n2.toInt ∧ i2n2.toInt ≤ n.toInt) → (∀ j : Nat, (j : Int) < i2n2.toInt → (F21n2 j).toInt = (RW j).toInt) → (300 - i2n2.toInt).toNat < N → J tS mX7_findForm d 2 [some (.ref a0), some (.int x1), some (.int i2n2), none, none, none, none] [] V 0 0 (fun r V => (jPost [.inl 21] V0 rV) r V ∧ (∃ F2 : Nat → Int32, V fm = some (.inl (21, 60, .inl F2)) ∧ ∀ j : Nat, j < n.toInt.toNat → (F2 j).toInt = jbs x1.toInt (fun q => (RW q).toInt) n.toInt.toNat (2 * jtur x1.toInt).toNat j)) := by
    intro N
    induction N with
    | zero => intro V i2n2 F21n2 hW he ha0 hb_rw hb_fm hO_a0 hK_a0 hAF21n2 ha_RW hi2 hc hm; exact absurd hm (Nat.not_lt_zero _)
    | succ N ih =>
      intro V i2n2 F21n2 hW he ha0 hb_rw hb_fm hO_a0 hK_a0 hAF21n2 ha_RW hi2 hc hm
      have ih2 := ih
      have hri2 := j_rng i2n2
      obtain ⟨hNF21n2, hvF21n2⟩ := WT_rngI (r := ((-2147483648), 2147483647)) hW id rfl hAF21n2
      clear hNF21n2
      refine J_iload_n dX7_findForm_2 rfl ?_
      refine J_aload_n dX7_findForm_3 rfl ?_
      refine J_get jf_X7_109 dX7_findForm_4 hO_a0 hF_n ?_
      refine Jz_icmp_ge (tgt := 28) jEq.rf jEq.rf dX7_findForm_7 (by decide) (fun c7 => ?_) (fun c7 => ?_)
      · refine Jz_iconst 0 dX7_findForm_28 (by decide) (fun y28 he28 => ?_)
        refine J_istore_n dX7_findForm_29 rfl (by decide) ?_
        have L30 : ∀ (N : Nat) (V : jH) (i2n30 : Int32) (F21n30 : Nat → Int32), WT V → jeff [.inl 21] V0 V → (jis V (.inr 5) a0) → (jis V (.inl 17) rw) → (jis V (.inl 21) fm) → (V a0 = some (.inr (5, fs_a0))) → (jokO V (jFs 5) fs_a0) → (V fm = some (.inl (21, 60, .inl F21n30))) → (V rw = some (.inl (17, 120, .inl RW))) → (0 ≤ i2n30.toInt ∧ i2n30.toInt ≤ 2 * jtur x1.toInt) → (∀ j : Nat, j < n.toInt.toNat → (F21n30 j).toInt = jbs x1.toInt (fun q => (RW q).toInt) n.toInt.toNat i2n30.toInt.toNat j) → (300 - i2n30.toInt).toNat < N → J tS mX7_findForm d 30 [some (.ref a0), some (.int x1), some (.int i2n30), none, none, none, none] [] V 0 0 (fun r V => (jPost [.inl 21] V0 rV) r V ∧ (∃ F2 : Nat → Int32, V fm = some (.inl (21, 60, .inl F2)) ∧ ∀ j : Nat, j < n.toInt.toNat → (F2 j).toInt = jbs x1.toInt (fun q => (RW q).toInt) n.toInt.toNat (2 * jtur x1.toInt).toNat j)) := by
          intro N
          induction N with
          | zero => intro V i2n30 F21n30 hW he ha0 hb_rw hb_fm hO_a0 hK_a0 hAF21n30 ha_RW hi2b hb hm; exact absurd hm (Nat.not_lt_zero _)
          | succ N ih =>
            intro V i2n30 F21n30 hW he ha0 hb_rw hb_fm hO_a0 hK_a0 hAF21n30 ha_RW hi2b hb hm
            have ih30 := ih
            have hri2 := j_rng i2n30
            obtain ⟨hNF21n30, hvF21n30⟩ := WT_rngI (r := ((-2147483648), 2147483647)) hW id rfl hAF21n30
            clear hNF21n30
            refine J_iload_n dX7_findForm_30 rfl ?_
            refine Jz_iconst 2 dX7_findForm_31 (by decide) (fun y31 he31 => ?_)
            refine J_iload_n dX7_findForm_32 rfl ?_
            refine J_callS1 moX7_turns jw_ml_X7_143 jw_st_X7_turns dX7_findForm_33 (w_X7_turns (d - 1) _ x1 (by omega)   ) (by omega) (Nat.zero_le _) (Nat.zero_le _) (Nat.le_of_ble_eq_true rfl) (fun r33 V33 h33 => ?_)
            obtain ⟨⟨y33, rfl, hl33, hh33, hP33_0⟩, hE33⟩ := h33
            have hE33 := hE33.symm
            subst hE33
            have hz33 : jEq y33.toInt (jtur (x1.toInt)) := hP33_0
            simp only [hP33_0] at hl33 hh33
            clear hP33_0
            refine Jz_imul he31 hz33 dX7_findForm_36 (by omega) (by omega) (fun y36 he36 => ?_)
            refine Jz_icmp_ge (tgt := 167) jEq.rf he36 dX7_findForm_37 (by decide) (fun c37 => ?_) (fun c37 => ?_)
            · exact J_ret (r := none) dX7_findForm_167 ⟨rfl, rfl⟩ (⟨⟨hW, he, rfl⟩, ⟨F21n30, hAF21n30, by rw [show (2 * jtur x1.toInt).toNat = i2n30.toInt.toNat by omega]; exact hb⟩⟩)
            · refine J_iload_n dX7_findForm_40 rfl ?_
              refine Jz_iconst 2 dX7_findForm_41 (by decide) (fun y41 he41 => ?_)
              refine Jz_idivC jEq.rf he41 dX7_findForm_42 (by omega) (by omega) (fun y42 he42 => ?_)
              have hoq42 : y42.toInt = (i2n30.toInt) / (2) := he42.eq
              refine J_istore_n dX7_findForm_43 rfl (by decide) ?_
              refine J_iload_n dX7_findForm_44 rfl ?_
              refine Jz_iconst 2 dX7_findForm_45 (by decide) (fun y45 he45 => ?_)
              refine Jz_iremC jEq.rf he45 dX7_findForm_46 (by omega) (by omega) (fun y46 he46 => ?_)
              refine Jz_iconst 1 dX7_findForm_47 (by decide) (fun y47 he47 => ?_)
              refine Jz_icmp_ne (tgt := 55) he46 he47 dX7_findForm_48 (by decide) (fun c48 => ?_) (fun c48 => ?_)
              · refine Jz_iconst 0 dX7_findForm_55 (by decide) (fun y55 he55 => ?_)
                have hoq55 : y55.toInt = 0 := he55.eq
                refine J_istore dX7_findForm_56 rfl (by decide) ?_
                refine Jz_iconst 0 dX7_findForm_58 (by decide) (fun y58 he58 => ?_)
                refine J_istore dX7_findForm_59 rfl (by decide) ?_
                have L61 : ∀ (N : Nat) (i5n61 : Int32), (0 ≤ i5n61.toInt ∧ i5n61.toInt ≤ n.toInt) → (∀ j : Nat, (j : Int) < i5n61.toInt → (jim x1.toInt (fun q => (RW q).toInt) n.toInt.toNat y42.toInt (decide (y55.toInt = 1)) j) = (F21n30 j).toInt) → (300 - i5n61.toInt).toNat < N → J tS mX7_findForm d 61 [some (.ref a0), some (.int x1), some (.int i2n30), some (.int y42), some (.int y55), some (.int i5n61), none] [] V 0 0 (fun r V => (jPost [.inl 21] V0 rV) r V ∧ (∃ F2 : Nat → Int32, V fm = some (.inl (21, 60, .inl F2)) ∧ ∀ j : Nat, j < n.toInt.toNat → (F2 j).toInt = jbs x1.toInt (fun q => (RW q).toInt) n.toInt.toNat (2 * jtur x1.toInt).toNat j)) := by
                  intro N
                  induction N with
                  | zero => intro i5n61  hi5 heq hm; exact absurd hm (Nat.not_lt_zero _)
                  | succ N ih =>
                    intro i5n61  hi5 heq hm
                    have ih61 := ih
                    have hri5 := j_rng i5n61
                    refine J_iload dX7_findForm_61 rfl ?_
                    refine J_aload_n dX7_findForm_63 rfl ?_
                    refine J_get jf_X7_109 dX7_findForm_64 hO_a0 hF_n ?_
                    refine Jz_icmp_ge (tgt := 96) jEq.rf jEq.rf dX7_findForm_67 (by decide) (fun c67 => ?_) (fun c67 => ?_)
                    · refine J_iload dX7_findForm_96 rfl ?_
                      refine J_aload_n dX7_findForm_98 rfl ?_
                      refine J_get jf_X7_109 dX7_findForm_99 hO_a0 hF_n ?_
                      refine Jz_icmp_ge (tgt := 161) jEq.rf jEq.rf dX7_findForm_102 (by decide) (fun c102 => ?_) (fun c102 => ?_)
                      · refine Jz_iinc 1 dX7_findForm_161 rfl rfl (by decide) jEq.rf (by decide) (by omega) (by omega) (fun y161 he161 => ?_)
                        refine J_goto (tgt := 30) dX7_findForm_164 (by decide) ?_
                        refine J.mask [true, true, true, false, false, false, false] ?_
                        exact ih30 _ y161 F21n30 hW he ha0 hb_rw hb_fm hO_a0 hK_a0 hAF21n30 ha_RW (by (try simp only [he161.eq, true_and, and_true]) <;> omega) (by rw [he161.eq, show (i2n30.toInt + 1).toNat = i2n30.toInt.toNat + 1 by omega]; exact (jbs_step (K := i2n30.toInt.toNat) (t := y42.toInt) (b := decide (y55.toInt = 1)) (by omega) (decide_eq_decide.mpr (by omega)) hb (fun z => absurd z (jlx_eq (fun j hj => heq j (by omega)))) (fun _ j _ => rfl))) (by (try simp only [he161.eq, true_and, and_true]) <;> omega)
                      · refine J_aload_n dX7_findForm_105 rfl ?_
                        refine J_iload_n dX7_findForm_106 rfl ?_
                        refine J_iload_n dX7_findForm_107 rfl ?_
                        refine J_iload dX7_findForm_108 rfl ?_
                        refine J_iload dX7_findForm_110 rfl ?_
                        have c87x : ¬ (jim x1.toInt (fun q => (RW q).toInt) n.toInt.toNat y42.toInt (decide (y55.toInt = 1)) i5n61.toInt.toNat) = (F21n30 i5n61.toInt.toNat).toInt := by first | omega | (rw [hq86]; omega)
                        refine Jw_callV4 (q9 := (RX7, TX7, 34)) moX7_tried jw_ml_X7_170 jw_im_X7_tried jw_se_X7_tried ha0 rfl rfl dX7_findForm_112 (w_X7_tried_z (d - 1) _ a0 x1 y42 y55 i5n61 n rw RW (by omega) hW  ha0 (by omega) (by omega) ⟨_, hO_a0, hF_n⟩ ⟨_, hO_a0, hF_rw⟩ ha_RW (by omega) (by omega) (by omega) (by omega) (by omega) (by omega) (by omega)) (by omega) (Nat.zero_le _) (Nat.zero_le _) (Nat.le_of_ble_eq_true rfl) (fun r112 V112 h112 => ?_)
                        obtain ⟨⟨y112, rfl, hl112, hh112, hP112_0⟩, hE112⟩ := h112
                        have hE112 := hE112.symm
                        subst hE112
                        clear hl112 hh112
                        have hz112 : jEq y112.toInt ((jim (x1.toInt) (fun q => (RW q).toInt) (n.toInt).toNat (y42.toInt) (decide ((y55.toInt) = 1)) (i5n61.toInt).toNat)) := hP112_0
                        clear hP112_0
                        refine J_aload_n dX7_findForm_115 rfl ?_
                        refine J_get jf_X7_31 dX7_findForm_116 hO_a0 hF_fm ?_
                        refine J_iload dX7_findForm_119 rfl ?_
                        refine Jz_iald (r := ((-2147483648), 2147483647)) jEq.rf dX7_findForm_121 hAF21n30 rfl hvF21n30 (by omega) (by omega) (fun y121 hf121 hl121 hh121 => ?_)
                        dsimp only at hl121 hh121
                        clear hl121 hh121
                        refine Jz_icmp_ge (tgt := 161) hz112 jEq.rf dX7_findForm_122 (by decide) (fun c122 => ?_) (fun c122 => ?_)
                        · refine Jz_iinc 1 dX7_findForm_161 rfl rfl (by decide) jEq.rf (by decide) (by omega) (by omega) (fun y161 he161 => ?_)
                          refine J_goto (tgt := 30) dX7_findForm_164 (by decide) ?_
                          refine J.mask [true, true, true, false, false, false, false] ?_
                          exact ih30 _ y161 F21n30 hW he ha0 hb_rw hb_fm hO_a0 hK_a0 hAF21n30 ha_RW (by (try simp only [he161.eq, true_and, and_true]) <;> omega) (by rw [he161.eq, show (i2n30.toInt + 1).toNat = i2n30.toInt.toNat + 1 by omega]; exact (jbs_step (K := i2n30.toInt.toNat) (t := y42.toInt) (b := decide (y55.toInt = 1)) (by omega) (decide_eq_decide.mpr (by omega)) hb (fun z => absurd ((jlx_at (n := n.toInt.toNat) (i := i5n61.toInt.toNat) (F := (jim x1.toInt (fun q => (RW q).toInt) n.toInt.toNat y42.toInt (decide (y55.toInt = 1)))) (B := (fun q => (F21n30 q).toInt)) (by omega) (fun j hj => heq j (by omega)) (fun z => c87x z)).mp z) (fun z3 => by have z4 : (jim x1.toInt (fun q => (RW q).toInt) n.toInt.toNat y42.toInt (decide (y55.toInt = 1)) i5n61.toInt.toNat) < (F21n30 i5n61.toInt.toNat).toInt := z3; first | omega | (rw [hq86] at z4; omega))) (fun _ j _ => rfl))) (by (try simp only [he161.eq, true_and, and_true]) <;> omega)
                        · have c122x : (jim x1.toInt (fun q => (RW q).toInt) n.toInt.toNat y42.toInt (decide (y55.toInt = 1)) i5n61.toInt.toNat) < (F21n30 i5n61.toInt.toNat).toInt := by first | omega | (rw [hq86]; omega)
                          refine J_iload dX7_findForm_125 rfl ?_
                          refine J_istore dX7_findForm_127 rfl (by decide) ?_
                          have L129 : ∀ (N : Nat) (V : jH) (i6n129 : Int32) (F21n129 : Nat → Int32), WT V → jeff [.inl 21] V0 V → (jis V (.inr 5) a0) → (jis V (.inl 17) rw) → (jis V (.inl 21) fm) → (V a0 = some (.inr (5, fs_a0))) → (jokO V (jFs 5) fs_a0) → (V fm = some (.inl (21, 60, .inl F21n129))) → (V rw = some (.inl (17, 120, .inl RW))) → (i5n61.toInt ≤ i6n129.toInt ∧ i6n129.toInt ≤ n.toInt) → (∀ j : Nat, (j : Int) < i6n129.toInt → (F21n129 j).toInt = (jim x1.toInt (fun q => (RW q).toInt) n.toInt.toNat y42.toInt (decide (y55.toInt = 1)) j)) → (300 - i6n129.toInt).toNat < N → J tS mX7_findForm d 129 [some (.ref a0), some (.int x1), some (.int i2n30), some (.int y42), some (.int y55), some (.int i5n61), some (.int i6n129)] [] V 0 0 (fun r V => (jPost [.inl 21] V0 rV) r V ∧ (∃ F2 : Nat → Int32, V fm = some (.inl (21, 60, .inl F2)) ∧ ∀ j : Nat, j < n.toInt.toNat → (F2 j).toInt = jbs x1.toInt (fun q => (RW q).toInt) n.toInt.toNat (2 * jtur x1.toInt).toNat j)) := by
                            intro N
                            induction N with
                            | zero => intro V i6n129 F21n129 hW he ha0 hb_rw hb_fm hO_a0 hK_a0 hAF21n129 ha_RW hi6 hcp hm; exact absurd hm (Nat.not_lt_zero _)
                            | succ N ih =>
                              intro V i6n129 F21n129 hW he ha0 hb_rw hb_fm hO_a0 hK_a0 hAF21n129 ha_RW hi6 hcp hm
                              have ih129 := ih
                              have hri6 := j_rng i6n129
                              obtain ⟨hNF21n129, hvF21n129⟩ := WT_rngI (r := ((-2147483648), 2147483647)) hW id rfl hAF21n129
                              clear hNF21n129
                              refine J_iload dX7_findForm_129 rfl ?_
                              refine J_aload_n dX7_findForm_131 rfl ?_
                              refine J_get jf_X7_109 dX7_findForm_132 hO_a0 hF_n ?_
                              refine Jz_icmp_ge (tgt := 161) jEq.rf jEq.rf dX7_findForm_135 (by decide) (fun c135 => ?_) (fun c135 => ?_)
                              · refine Jz_iinc 1 dX7_findForm_161 rfl rfl (by decide) jEq.rf (by decide) (by omega) (by omega) (fun y161 he161 => ?_)
                                refine J_goto (tgt := 30) dX7_findForm_164 (by decide) ?_
                                refine J.mask [true, true, true, false, false, false, false] ?_
                                exact ih30 _ y161 F21n129 hW he ha0 hb_rw hb_fm hO_a0 hK_a0 hAF21n129 ha_RW (by (try simp only [he161.eq, true_and, and_true]) <;> omega) (by rw [he161.eq, show (i2n30.toInt + 1).toNat = i2n30.toInt.toNat + 1 by omega]; exact (jbs_step (K := i2n30.toInt.toNat) (t := y42.toInt) (b := decide (y55.toInt = 1)) (by omega) (decide_eq_decide.mpr (by omega)) hb (fun _ j hj => hcp j (by omega)) (fun z => absurd ((jlx_at (n := n.toInt.toNat) (i := i5n61.toInt.toNat) (F := (jim x1.toInt (fun q => (RW q).toInt) n.toInt.toNat y42.toInt (decide (y55.toInt = 1)))) (B := (fun q => (F21n30 q).toInt)) (by omega) (fun j hj => heq j (by omega)) (fun z => c87x z)).mpr (by have q := c122x; omega)) z))) (by (try simp only [he161.eq, true_and, and_true]) <;> omega)
                              · refine J_aload_n dX7_findForm_138 rfl ?_
                                refine J_get jf_X7_31 dX7_findForm_139 hO_a0 hF_fm ?_
                                refine J_iload dX7_findForm_142 rfl ?_
                                refine J_aload_n dX7_findForm_144 rfl ?_
                                refine J_iload_n dX7_findForm_145 rfl ?_
                                refine J_iload_n dX7_findForm_146 rfl ?_
                                refine J_iload dX7_findForm_147 rfl ?_
                                refine J_iload dX7_findForm_149 rfl ?_
                                refine Jw_callV4 (q9 := (RX7, TX7, 34)) moX7_tried jw_ml_X7_170 jw_im_X7_tried jw_se_X7_tried ha0 rfl rfl dX7_findForm_151 (w_X7_tried_z (d - 1) _ a0 x1 y42 y55 i6n129 n rw RW (by omega) hW  ha0 (by omega) (by omega) ⟨_, hO_a0, hF_n⟩ ⟨_, hO_a0, hF_rw⟩ ha_RW (by omega) (by omega) (by omega) (by omega) (by omega) (by omega) (by omega)) (by omega) (Nat.zero_le _) (Nat.zero_le _) (Nat.le_of_ble_eq_true rfl) (fun r151 V151 h151 => ?_)
                                obtain ⟨⟨y151, rfl, hl151, hh151, hP151_0⟩, hE151⟩ := h151
                                have hE151 := hE151.symm
                                subst hE151
                                clear hl151 hh151
                                have hz151 : jEq y151.toInt ((jim (x1.toInt) (fun q => (RW q).toInt) (n.toInt).toNat (y42.toInt) (decide ((y55.toInt) = 1)) (i6n129.toInt).toNat)) := hP151_0
                                clear hP151_0
                                have hjb := jim_b (g := x1.toInt) (t := y42.toInt) (T := (fun q => (RW q).toInt)) (n := n.toInt.toNat) (b := decide (y55.toInt = 1)) (by omega) (by omega) (fun q hq => hp3 q (by omega)) (i := i6n129.toInt.toNat) (by omega)
                                refine Jz_iast (r := ((-2147483648), 2147483647)) jEq.rf hz151 hW id dX7_findForm_154 hAF21n129 rfl rfl (by omega) (by omega) (by omega) (by omega) (fun V154 G154 hW hx154 hA154 hp154 ho154 => ?_)
                                obtain ⟨hN154, hv154⟩ := WT_rngI (r := ((-2147483648), 2147483647)) hW id rfl hA154
                                clear hN154
                                have he := he.trans (hx154.sub (jsub_of rfl))
                                have ha0 := ha0.mono hx154.1
                                have hb_rw := hb_rw.mono hx154.1
                                have hb_fm := hb_fm.mono hx154.1
                                have hO_a0 := hx154.2 _ _ hO_a0 (jnot_of rfl)
                                have hK_a0 := hK_a0.mono hx154.1
                                have ha_RW := hx154.2 _ _ ha_RW (jnot_of rfl)
                                refine Jz_iinc 1 dX7_findForm_155 rfl rfl (by decide) jEq.rf (by decide) (by omega) (by omega) (fun y155 he155 => ?_)
                                refine J_goto (tgt := 129) dX7_findForm_158 (by decide) ?_
                                refine J.mask [true, true, true, true, true, true, true] ?_
                                exact ih129 _ y155 G154 hW he ha0 hb_rw hb_fm hO_a0 hK_a0 hA154 ha_RW (by (try simp only [he155.eq, true_and, and_true]) <;> omega) (fun j hj => by rw [he155.eq] at hj; by_cases h9 : (j : Int) = i6n129.toInt; (have e : j = i6n129.toInt.toNat := by omega); subst e; rw [hp154, hz151.eq]; rw [ho154 j (by omega)]; exact hcp j (by omega)) (by (try simp only [he155.eq, true_and, and_true]) <;> omega)
                          refine J.mask [true, true, true, true, true, true, true] ?_
                          exact L129 _ _ i5n61 F21n30 hW he ha0 hb_rw hb_fm hO_a0 hK_a0 hAF21n30 ha_RW (by omega) (fun j hj => (heq j hj).symm) (Nat.lt_succ_self _)
                    · refine J_aload_n dX7_findForm_70 rfl ?_
                      refine J_iload_n dX7_findForm_71 rfl ?_
                      refine J_iload_n dX7_findForm_72 rfl ?_
                      refine J_iload dX7_findForm_73 rfl ?_
                      refine J_iload dX7_findForm_75 rfl ?_
                      refine Jw_callV4 (q9 := (RX7, TX7, 34)) moX7_tried jw_ml_X7_170 jw_im_X7_tried jw_se_X7_tried ha0 rfl rfl dX7_findForm_77 (w_X7_tried_z (d - 1) _ a0 x1 y42 y55 i5n61 n rw RW (by omega) hW  ha0 (by omega) (by omega) ⟨_, hO_a0, hF_n⟩ ⟨_, hO_a0, hF_rw⟩ ha_RW (by omega) (by omega) (by omega) (by omega) (by omega) (by omega) (by omega)) (by omega) (Nat.zero_le _) (Nat.zero_le _) (Nat.le_of_ble_eq_true rfl) (fun r77 V77 h77 => ?_)
                      obtain ⟨⟨y77, rfl, hl77, hh77, hP77_0⟩, hE77⟩ := h77
                      have hE77 := hE77.symm
                      subst hE77
                      clear hl77 hh77
                      have hz77 : jEq y77.toInt ((jim (x1.toInt) (fun q => (RW q).toInt) (n.toInt).toNat (y42.toInt) (decide ((y55.toInt) = 1)) (i5n61.toInt).toNat)) := hP77_0
                      clear hP77_0
                      refine J_aload_n dX7_findForm_80 rfl ?_
                      refine J_get jf_X7_31 dX7_findForm_81 hO_a0 hF_fm ?_
                      refine J_iload dX7_findForm_84 rfl ?_
                      refine Jz_iald (r := ((-2147483648), 2147483647)) jEq.rf dX7_findForm_86 hAF21n30 rfl hvF21n30 (by omega) (by omega) (fun y86 hf86 hl86 hh86 => ?_)
                      dsimp only at hl86 hh86
                      clear hl86 hh86
                      have hq86 : (F21n30 i5n61.toInt.toNat).toInt = y86.toInt := by rw [hf86]
                      refine Jz_icmp_ne (tgt := 96) hz77 jEq.rf dX7_findForm_87 (by decide) (fun c87 => ?_) (fun c87 => ?_)
                      · refine J_iload dX7_findForm_96 rfl ?_
                        refine J_aload_n dX7_findForm_98 rfl ?_
                        refine J_get jf_X7_109 dX7_findForm_99 hO_a0 hF_n ?_
                        refine Jz_icmp_ge (tgt := 161) jEq.rf jEq.rf dX7_findForm_102 (by decide) (fun c102 => ?_) (fun c102 => ?_)
                        · refine Jz_iinc 1 dX7_findForm_161 rfl rfl (by decide) jEq.rf (by decide) (by omega) (by omega) (fun y161 he161 => ?_)
                          refine J_goto (tgt := 30) dX7_findForm_164 (by decide) ?_
                          refine J.mask [true, true, true, false, false, false, false] ?_
                          exact ih30 _ y161 F21n30 hW he ha0 hb_rw hb_fm hO_a0 hK_a0 hAF21n30 ha_RW (by (try simp only [he161.eq, true_and, and_true]) <;> omega) (by rw [he161.eq, show (i2n30.toInt + 1).toNat = i2n30.toInt.toNat + 1 by omega]; exact (jbs_step (K := i2n30.toInt.toNat) (t := y42.toInt) (b := decide (y55.toInt = 1)) (by omega) (decide_eq_decide.mpr (by omega)) hb (fun z => absurd z (jlx_eq (fun j hj => heq j (by omega)))) (fun _ j _ => rfl))) (by (try simp only [he161.eq, true_and, and_true]) <;> omega)
                        · refine J_aload_n dX7_findForm_105 rfl ?_
                          refine J_iload_n dX7_findForm_106 rfl ?_
                          refine J_iload_n dX7_findForm_107 rfl ?_
                          refine J_iload dX7_findForm_108 rfl ?_
                          refine J_iload dX7_findForm_110 rfl ?_
                          have c87x : ¬ (jim x1.toInt (fun q => (RW q).toInt) n.toInt.toNat y42.toInt (decide (y55.toInt = 1)) i5n61.toInt.toNat) = (F21n30 i5n61.toInt.toNat).toInt := by first | omega | (rw [hq86]; omega)
                          refine Jw_callV4 (q9 := (RX7, TX7, 34)) moX7_tried jw_ml_X7_170 jw_im_X7_tried jw_se_X7_tried ha0 rfl rfl dX7_findForm_112 (w_X7_tried_z (d - 1) _ a0 x1 y42 y55 i5n61 n rw RW (by omega) hW  ha0 (by omega) (by omega) ⟨_, hO_a0, hF_n⟩ ⟨_, hO_a0, hF_rw⟩ ha_RW (by omega) (by omega) (by omega) (by omega) (by omega) (by omega) (by omega)) (by omega) (Nat.zero_le _) (Nat.zero_le _) (Nat.le_of_ble_eq_true rfl) (fun r112 V112 h112 => ?_)
                          obtain ⟨⟨y112, rfl, hl112, hh112, hP112_0⟩, hE112⟩ := h112
                          have hE112 := hE112.symm
                          subst hE112
                          clear hl112 hh112
                          have hz112 : jEq y112.toInt ((jim (x1.toInt) (fun q => (RW q).toInt) (n.toInt).toNat (y42.toInt) (decide ((y55.toInt) = 1)) (i5n61.toInt).toNat)) := hP112_0
                          clear hP112_0
                          refine J_aload_n dX7_findForm_115 rfl ?_
                          refine J_get jf_X7_31 dX7_findForm_116 hO_a0 hF_fm ?_
                          refine J_iload dX7_findForm_119 rfl ?_
                          refine Jz_iald (r := ((-2147483648), 2147483647)) jEq.rf dX7_findForm_121 hAF21n30 rfl hvF21n30 (by omega) (by omega) (fun y121 hf121 hl121 hh121 => ?_)
                          dsimp only at hl121 hh121
                          clear hl121 hh121
                          have he121 : jEq y121.toInt (y86.toInt) := by rw [← hf121, hf86]; exact jEq.rf
                          refine Jz_icmp_ge (tgt := 161) hz112 he121 dX7_findForm_122 (by decide) (fun c122 => ?_) (fun c122 => ?_)
                          · refine Jz_iinc 1 dX7_findForm_161 rfl rfl (by decide) jEq.rf (by decide) (by omega) (by omega) (fun y161 he161 => ?_)
                            refine J_goto (tgt := 30) dX7_findForm_164 (by decide) ?_
                            refine J.mask [true, true, true, false, false, false, false] ?_
                            exact ih30 _ y161 F21n30 hW he ha0 hb_rw hb_fm hO_a0 hK_a0 hAF21n30 ha_RW (by (try simp only [he161.eq, true_and, and_true]) <;> omega) (by rw [he161.eq, show (i2n30.toInt + 1).toNat = i2n30.toInt.toNat + 1 by omega]; exact (jbs_step (K := i2n30.toInt.toNat) (t := y42.toInt) (b := decide (y55.toInt = 1)) (by omega) (decide_eq_decide.mpr (by omega)) hb (fun z => absurd ((jlx_at (n := n.toInt.toNat) (i := i5n61.toInt.toNat) (F := (jim x1.toInt (fun q => (RW q).toInt) n.toInt.toNat y42.toInt (decide (y55.toInt = 1)))) (B := (fun q => (F21n30 q).toInt)) (by omega) (fun j hj => heq j (by omega)) (fun z => c87x z)).mp z) (fun z3 => by have z4 : (jim x1.toInt (fun q => (RW q).toInt) n.toInt.toNat y42.toInt (decide (y55.toInt = 1)) i5n61.toInt.toNat) < (F21n30 i5n61.toInt.toNat).toInt := z3; first | omega | (rw [hq86] at z4; omega))) (fun _ j _ => rfl))) (by (try simp only [he161.eq, true_and, and_true]) <;> omega)
                          · have c122x : (jim x1.toInt (fun q => (RW q).toInt) n.toInt.toNat y42.toInt (decide (y55.toInt = 1)) i5n61.toInt.toNat) < (F21n30 i5n61.toInt.toNat).toInt := by first | omega | (rw [hq86]; omega)
                            refine J_iload dX7_findForm_125 rfl ?_
                            refine J_istore dX7_findForm_127 rfl (by decide) ?_
                            have L129 : ∀ (N : Nat) (V : jH) (i6n129 : Int32) (F21n129 : Nat → Int32), WT V → jeff [.inl 21] V0 V → (jis V (.inr 5) a0) → (jis V (.inl 17) rw) → (jis V (.inl 21) fm) → (V a0 = some (.inr (5, fs_a0))) → (jokO V (jFs 5) fs_a0) → (V fm = some (.inl (21, 60, .inl F21n129))) → (V rw = some (.inl (17, 120, .inl RW))) → (i5n61.toInt ≤ i6n129.toInt ∧ i6n129.toInt ≤ n.toInt) → (∀ j : Nat, (j : Int) < i6n129.toInt → (F21n129 j).toInt = (jim x1.toInt (fun q => (RW q).toInt) n.toInt.toNat y42.toInt (decide (y55.toInt = 1)) j)) → (300 - i6n129.toInt).toNat < N → J tS mX7_findForm d 129 [some (.ref a0), some (.int x1), some (.int i2n30), some (.int y42), some (.int y55), some (.int i5n61), some (.int i6n129)] [] V 0 0 (fun r V => (jPost [.inl 21] V0 rV) r V ∧ (∃ F2 : Nat → Int32, V fm = some (.inl (21, 60, .inl F2)) ∧ ∀ j : Nat, j < n.toInt.toNat → (F2 j).toInt = jbs x1.toInt (fun q => (RW q).toInt) n.toInt.toNat (2 * jtur x1.toInt).toNat j)) := by
                              intro N
                              induction N with
                              | zero => intro V i6n129 F21n129 hW he ha0 hb_rw hb_fm hO_a0 hK_a0 hAF21n129 ha_RW hi6 hcp hm; exact absurd hm (Nat.not_lt_zero _)
                              | succ N ih =>
                                intro V i6n129 F21n129 hW he ha0 hb_rw hb_fm hO_a0 hK_a0 hAF21n129 ha_RW hi6 hcp hm
                                have ih129 := ih
                                have hri6 := j_rng i6n129
                                obtain ⟨hNF21n129, hvF21n129⟩ := WT_rngI (r := ((-2147483648), 2147483647)) hW id rfl hAF21n129
                                clear hNF21n129
                                refine J_iload dX7_findForm_129 rfl ?_
                                refine J_aload_n dX7_findForm_131 rfl ?_
                                refine J_get jf_X7_109 dX7_findForm_132 hO_a0 hF_n ?_
                                refine Jz_icmp_ge (tgt := 161) jEq.rf jEq.rf dX7_findForm_135 (by decide) (fun c135 => ?_) (fun c135 => ?_)
                                · refine Jz_iinc 1 dX7_findForm_161 rfl rfl (by decide) jEq.rf (by decide) (by omega) (by omega) (fun y161 he161 => ?_)
                                  refine J_goto (tgt := 30) dX7_findForm_164 (by decide) ?_
                                  refine J.mask [true, true, true, false, false, false, false] ?_
                                  exact ih30 _ y161 F21n129 hW he ha0 hb_rw hb_fm hO_a0 hK_a0 hAF21n129 ha_RW (by (try simp only [he161.eq, true_and, and_true]) <;> omega) (by rw [he161.eq, show (i2n30.toInt + 1).toNat = i2n30.toInt.toNat + 1 by omega]; exact (jbs_step (K := i2n30.toInt.toNat) (t := y42.toInt) (b := decide (y55.toInt = 1)) (by omega) (decide_eq_decide.mpr (by omega)) hb (fun _ j hj => hcp j (by omega)) (fun z => absurd ((jlx_at (n := n.toInt.toNat) (i := i5n61.toInt.toNat) (F := (jim x1.toInt (fun q => (RW q).toInt) n.toInt.toNat y42.toInt (decide (y55.toInt = 1)))) (B := (fun q => (F21n30 q).toInt)) (by omega) (fun j hj => heq j (by omega)) (fun z => c87x z)).mpr (by have q := c122x; omega)) z))) (by (try simp only [he161.eq, true_and, and_true]) <;> omega)
                                · refine J_aload_n dX7_findForm_138 rfl ?_
                                  refine J_get jf_X7_31 dX7_findForm_139 hO_a0 hF_fm ?_
                                  refine J_iload dX7_findForm_142 rfl ?_
                                  refine J_aload_n dX7_findForm_144 rfl ?_
                                  refine J_iload_n dX7_findForm_145 rfl ?_
                                  refine J_iload_n dX7_findForm_146 rfl ?_
                                  refine J_iload dX7_findForm_147 rfl ?_
                                  refine J_iload dX7_findForm_149 rfl ?_
                                  refine Jw_callV4 (q9 := (RX7, TX7, 34)) moX7_tried jw_ml_X7_170 jw_im_X7_tried jw_se_X7_tried ha0 rfl rfl dX7_findForm_151 (w_X7_tried_z (d - 1) _ a0 x1 y42 y55 i6n129 n rw RW (by omega) hW  ha0 (by omega) (by omega) ⟨_, hO_a0, hF_n⟩ ⟨_, hO_a0, hF_rw⟩ ha_RW (by omega) (by omega) (by omega) (by omega) (by omega) (by omega) (by omega)) (by omega) (Nat.zero_le _) (Nat.zero_le _) (Nat.le_of_ble_eq_true rfl) (fun r151 V151 h151 => ?_)
                                  obtain ⟨⟨y151, rfl, hl151, hh151, hP151_0⟩, hE151⟩ := h151
                                  have hE151 := hE151.symm
                                  subst hE151
                                  clear hl151 hh151
                                  have hz151 : jEq y151.toInt ((jim (x1.toInt) (fun q => (RW q).toInt) (n.toInt).toNat (y42.toInt) (decide ((y55.toInt) = 1)) (i6n129.toInt).toNat)) := hP151_0
                                  clear hP151_0
                                  have hjb := jim_b (g := x1.toInt) (t := y42.toInt) (T := (fun q => (RW q).toInt)) (n := n.toInt.toNat) (b := decide (y55.toInt = 1)) (by omega) (by omega) (fun q hq => hp3 q (by omega)) (i := i6n129.toInt.toNat) (by omega)
                                  refine Jz_iast (r := ((-2147483648), 2147483647)) jEq.rf hz151 hW id dX7_findForm_154 hAF21n129 rfl rfl (by omega) (by omega) (by omega) (by omega) (fun V154 G154 hW hx154 hA154 hp154 ho154 => ?_)
                                  obtain ⟨hN154, hv154⟩ := WT_rngI (r := ((-2147483648), 2147483647)) hW id rfl hA154
                                  clear hN154
                                  have he := he.trans (hx154.sub (jsub_of rfl))
                                  have ha0 := ha0.mono hx154.1
                                  have hb_rw := hb_rw.mono hx154.1
                                  have hb_fm := hb_fm.mono hx154.1
                                  have hO_a0 := hx154.2 _ _ hO_a0 (jnot_of rfl)
                                  have hK_a0 := hK_a0.mono hx154.1
                                  have ha_RW := hx154.2 _ _ ha_RW (jnot_of rfl)
                                  refine Jz_iinc 1 dX7_findForm_155 rfl rfl (by decide) jEq.rf (by decide) (by omega) (by omega) (fun y155 he155 => ?_)
                                  refine J_goto (tgt := 129) dX7_findForm_158 (by decide) ?_
                                  refine J.mask [true, true, true, true, true, true, true] ?_
                                  exact ih129 _ y155 G154 hW he ha0 hb_rw hb_fm hO_a0 hK_a0 hA154 ha_RW (by (try simp only [he155.eq, true_and, and_true]) <;> omega) (fun j hj => by rw [he155.eq] at hj; by_cases h9 : (j : Int) = i6n129.toInt; (have e : j = i6n129.toInt.toNat := by omega); subst e; rw [hp154, hz151.eq]; rw [ho154 j (by omega)]; exact hcp j (by omega)) (by (try simp only [he155.eq, true_and, and_true]) <;> omega)
                            refine J.mask [true, true, true, true, true, true, true] ?_
                            exact L129 _ _ i5n61 F21n30 hW he ha0 hb_rw hb_fm hO_a0 hK_a0 hAF21n30 ha_RW (by omega) (fun j hj => (heq j hj).symm) (Nat.lt_succ_self _)
                      · refine Jz_iinc 1 dX7_findForm_90 rfl rfl (by decide) jEq.rf (by decide) (by omega) (by omega) (fun y90 he90 => ?_)
                        refine J_goto (tgt := 61) dX7_findForm_93 (by decide) ?_
                        refine J.mask [true, true, true, true, true, true, false] ?_
                        exact ih61  y90  (by (try simp only [he90.eq, true_and, and_true]) <;> omega) (fun j hj => by rw [he90.eq] at hj; by_cases h9 : (j : Int) = i5n61.toInt; (have e : j = i5n61.toInt.toNat := by omega); subst e; rw [hf86]; omega; exact heq j (by omega)) (by (try simp only [he90.eq, true_and, and_true]) <;> omega)
                refine J.mask [true, true, true, true, true, true, false] ?_
                exact L61 _  y58    (by (try simp only [he58.eq, true_and, and_true]) <;> omega) (fun j hj => by rw [he58.eq] at hj; omega) (Nat.lt_succ_self _)
              · refine Jz_iconst 1 dX7_findForm_51 (by decide) (fun y51 he51 => ?_)
                have hoq51 : y51.toInt = 1 := he51.eq
                refine J_goto (tgt := 56) dX7_findForm_52 (by decide) ?_
                refine J_istore dX7_findForm_56 rfl (by decide) ?_
                refine Jz_iconst 0 dX7_findForm_58 (by decide) (fun y58 he58 => ?_)
                refine J_istore dX7_findForm_59 rfl (by decide) ?_
                have L61 : ∀ (N : Nat) (i5n61 : Int32), (0 ≤ i5n61.toInt ∧ i5n61.toInt ≤ n.toInt) → (∀ j : Nat, (j : Int) < i5n61.toInt → (jim x1.toInt (fun q => (RW q).toInt) n.toInt.toNat y42.toInt (decide (y51.toInt = 1)) j) = (F21n30 j).toInt) → (300 - i5n61.toInt).toNat < N → J tS mX7_findForm d 61 [some (.ref a0), some (.int x1), some (.int i2n30), some (.int y42), some (.int y51), some (.int i5n61), none] [] V 0 0 (fun r V => (jPost [.inl 21] V0 rV) r V ∧ (∃ F2 : Nat → Int32, V fm = some (.inl (21, 60, .inl F2)) ∧ ∀ j : Nat, j < n.toInt.toNat → (F2 j).toInt = jbs x1.toInt (fun q => (RW q).toInt) n.toInt.toNat (2 * jtur x1.toInt).toNat j)) := by
                  intro N
                  induction N with
                  | zero => intro i5n61  hi5 heq hm; exact absurd hm (Nat.not_lt_zero _)
                  | succ N ih =>
                    intro i5n61  hi5 heq hm
                    have ih61 := ih
                    have hri5 := j_rng i5n61
                    refine J_iload dX7_findForm_61 rfl ?_
                    refine J_aload_n dX7_findForm_63 rfl ?_
                    refine J_get jf_X7_109 dX7_findForm_64 hO_a0 hF_n ?_
                    refine Jz_icmp_ge (tgt := 96) jEq.rf jEq.rf dX7_findForm_67 (by decide) (fun c67 => ?_) (fun c67 => ?_)
                    · refine J_iload dX7_findForm_96 rfl ?_
                      refine J_aload_n dX7_findForm_98 rfl ?_
                      refine J_get jf_X7_109 dX7_findForm_99 hO_a0 hF_n ?_
                      refine Jz_icmp_ge (tgt := 161) jEq.rf jEq.rf dX7_findForm_102 (by decide) (fun c102 => ?_) (fun c102 => ?_)
                      · refine Jz_iinc 1 dX7_findForm_161 rfl rfl (by decide) jEq.rf (by decide) (by omega) (by omega) (fun y161 he161 => ?_)
                        refine J_goto (tgt := 30) dX7_findForm_164 (by decide) ?_
                        refine J.mask [true, true, true, false, false, false, false] ?_
                        exact ih30 _ y161 F21n30 hW he ha0 hb_rw hb_fm hO_a0 hK_a0 hAF21n30 ha_RW (by (try simp only [he161.eq, true_and, and_true]) <;> omega) (by rw [he161.eq, show (i2n30.toInt + 1).toNat = i2n30.toInt.toNat + 1 by omega]; exact (jbs_step (K := i2n30.toInt.toNat) (t := y42.toInt) (b := decide (y51.toInt = 1)) (by omega) (decide_eq_decide.mpr (by omega)) hb (fun z => absurd z (jlx_eq (fun j hj => heq j (by omega)))) (fun _ j _ => rfl))) (by (try simp only [he161.eq, true_and, and_true]) <;> omega)
                      · refine J_aload_n dX7_findForm_105 rfl ?_
                        refine J_iload_n dX7_findForm_106 rfl ?_
                        refine J_iload_n dX7_findForm_107 rfl ?_
                        refine J_iload dX7_findForm_108 rfl ?_
                        refine J_iload dX7_findForm_110 rfl ?_
                        have c87x : ¬ (jim x1.toInt (fun q => (RW q).toInt) n.toInt.toNat y42.toInt (decide (y51.toInt = 1)) i5n61.toInt.toNat) = (F21n30 i5n61.toInt.toNat).toInt := by first | omega | (rw [hq86]; omega)
                        refine Jw_callV4 (q9 := (RX7, TX7, 34)) moX7_tried jw_ml_X7_170 jw_im_X7_tried jw_se_X7_tried ha0 rfl rfl dX7_findForm_112 (w_X7_tried_z (d - 1) _ a0 x1 y42 y51 i5n61 n rw RW (by omega) hW  ha0 (by omega) (by omega) ⟨_, hO_a0, hF_n⟩ ⟨_, hO_a0, hF_rw⟩ ha_RW (by omega) (by omega) (by omega) (by omega) (by omega) (by omega) (by omega)) (by omega) (Nat.zero_le _) (Nat.zero_le _) (Nat.le_of_ble_eq_true rfl) (fun r112 V112 h112 => ?_)
                        obtain ⟨⟨y112, rfl, hl112, hh112, hP112_0⟩, hE112⟩ := h112
                        have hE112 := hE112.symm
                        subst hE112
                        clear hl112 hh112
                        have hz112 : jEq y112.toInt ((jim (x1.toInt) (fun q => (RW q).toInt) (n.toInt).toNat (y42.toInt) (decide ((y51.toInt) = 1)) (i5n61.toInt).toNat)) := hP112_0
                        clear hP112_0
                        refine J_aload_n dX7_findForm_115 rfl ?_
                        refine J_get jf_X7_31 dX7_findForm_116 hO_a0 hF_fm ?_
                        refine J_iload dX7_findForm_119 rfl ?_
                        refine Jz_iald (r := ((-2147483648), 2147483647)) jEq.rf dX7_findForm_121 hAF21n30 rfl hvF21n30 (by omega) (by omega) (fun y121 hf121 hl121 hh121 => ?_)
                        dsimp only at hl121 hh121
                        clear hl121 hh121
                        refine Jz_icmp_ge (tgt := 161) hz112 jEq.rf dX7_findForm_122 (by decide) (fun c122 => ?_) (fun c122 => ?_)
                        · refine Jz_iinc 1 dX7_findForm_161 rfl rfl (by decide) jEq.rf (by decide) (by omega) (by omega) (fun y161 he161 => ?_)
                          refine J_goto (tgt := 30) dX7_findForm_164 (by decide) ?_
                          refine J.mask [true, true, true, false, false, false, false] ?_
                          exact ih30 _ y161 F21n30 hW he ha0 hb_rw hb_fm hO_a0 hK_a0 hAF21n30 ha_RW (by (try simp only [he161.eq, true_and, and_true]) <;> omega) (by rw [he161.eq, show (i2n30.toInt + 1).toNat = i2n30.toInt.toNat + 1 by omega]; exact (jbs_step (K := i2n30.toInt.toNat) (t := y42.toInt) (b := decide (y51.toInt = 1)) (by omega) (decide_eq_decide.mpr (by omega)) hb (fun z => absurd ((jlx_at (n := n.toInt.toNat) (i := i5n61.toInt.toNat) (F := (jim x1.toInt (fun q => (RW q).toInt) n.toInt.toNat y42.toInt (decide (y51.toInt = 1)))) (B := (fun q => (F21n30 q).toInt)) (by omega) (fun j hj => heq j (by omega)) (fun z => c87x z)).mp z) (fun z3 => by have z4 : (jim x1.toInt (fun q => (RW q).toInt) n.toInt.toNat y42.toInt (decide (y51.toInt = 1)) i5n61.toInt.toNat) < (F21n30 i5n61.toInt.toNat).toInt := z3; first | omega | (rw [hq86] at z4; omega))) (fun _ j _ => rfl))) (by (try simp only [he161.eq, true_and, and_true]) <;> omega)
                        · have c122x : (jim x1.toInt (fun q => (RW q).toInt) n.toInt.toNat y42.toInt (decide (y51.toInt = 1)) i5n61.toInt.toNat) < (F21n30 i5n61.toInt.toNat).toInt := by first | omega | (rw [hq86]; omega)
                          refine J_iload dX7_findForm_125 rfl ?_
                          refine J_istore dX7_findForm_127 rfl (by decide) ?_
                          have L129 : ∀ (N : Nat) (V : jH) (i6n129 : Int32) (F21n129 : Nat → Int32), WT V → jeff [.inl 21] V0 V → (jis V (.inr 5) a0) → (jis V (.inl 17) rw) → (jis V (.inl 21) fm) → (V a0 = some (.inr (5, fs_a0))) → (jokO V (jFs 5) fs_a0) → (V fm = some (.inl (21, 60, .inl F21n129))) → (V rw = some (.inl (17, 120, .inl RW))) → (i5n61.toInt ≤ i6n129.toInt ∧ i6n129.toInt ≤ n.toInt) → (∀ j : Nat, (j : Int) < i6n129.toInt → (F21n129 j).toInt = (jim x1.toInt (fun q => (RW q).toInt) n.toInt.toNat y42.toInt (decide (y51.toInt = 1)) j)) → (300 - i6n129.toInt).toNat < N → J tS mX7_findForm d 129 [some (.ref a0), some (.int x1), some (.int i2n30), some (.int y42), some (.int y51), some (.int i5n61), some (.int i6n129)] [] V 0 0 (fun r V => (jPost [.inl 21] V0 rV) r V ∧ (∃ F2 : Nat → Int32, V fm = some (.inl (21, 60, .inl F2)) ∧ ∀ j : Nat, j < n.toInt.toNat → (F2 j).toInt = jbs x1.toInt (fun q => (RW q).toInt) n.toInt.toNat (2 * jtur x1.toInt).toNat j)) := by
                            intro N
                            induction N with
                            | zero => intro V i6n129 F21n129 hW he ha0 hb_rw hb_fm hO_a0 hK_a0 hAF21n129 ha_RW hi6 hcp hm; exact absurd hm (Nat.not_lt_zero _)
                            | succ N ih =>
                              intro V i6n129 F21n129 hW he ha0 hb_rw hb_fm hO_a0 hK_a0 hAF21n129 ha_RW hi6 hcp hm
                              have ih129 := ih
                              have hri6 := j_rng i6n129
                              obtain ⟨hNF21n129, hvF21n129⟩ := WT_rngI (r := ((-2147483648), 2147483647)) hW id rfl hAF21n129
                              clear hNF21n129
                              refine J_iload dX7_findForm_129 rfl ?_
                              refine J_aload_n dX7_findForm_131 rfl ?_
                              refine J_get jf_X7_109 dX7_findForm_132 hO_a0 hF_n ?_
                              refine Jz_icmp_ge (tgt := 161) jEq.rf jEq.rf dX7_findForm_135 (by decide) (fun c135 => ?_) (fun c135 => ?_)
                              · refine Jz_iinc 1 dX7_findForm_161 rfl rfl (by decide) jEq.rf (by decide) (by omega) (by omega) (fun y161 he161 => ?_)
                                refine J_goto (tgt := 30) dX7_findForm_164 (by decide) ?_
                                refine J.mask [true, true, true, false, false, false, false] ?_
                                exact ih30 _ y161 F21n129 hW he ha0 hb_rw hb_fm hO_a0 hK_a0 hAF21n129 ha_RW (by (try simp only [he161.eq, true_and, and_true]) <;> omega) (by rw [he161.eq, show (i2n30.toInt + 1).toNat = i2n30.toInt.toNat + 1 by omega]; exact (jbs_step (K := i2n30.toInt.toNat) (t := y42.toInt) (b := decide (y51.toInt = 1)) (by omega) (decide_eq_decide.mpr (by omega)) hb (fun _ j hj => hcp j (by omega)) (fun z => absurd ((jlx_at (n := n.toInt.toNat) (i := i5n61.toInt.toNat) (F := (jim x1.toInt (fun q => (RW q).toInt) n.toInt.toNat y42.toInt (decide (y51.toInt = 1)))) (B := (fun q => (F21n30 q).toInt)) (by omega) (fun j hj => heq j (by omega)) (fun z => c87x z)).mpr (by have q := c122x; omega)) z))) (by (try simp only [he161.eq, true_and, and_true]) <;> omega)
                              · refine J_aload_n dX7_findForm_138 rfl ?_
                                refine J_get jf_X7_31 dX7_findForm_139 hO_a0 hF_fm ?_
                                refine J_iload dX7_findForm_142 rfl ?_
                                refine J_aload_n dX7_findForm_144 rfl ?_
                                refine J_iload_n dX7_findForm_145 rfl ?_
                                refine J_iload_n dX7_findForm_146 rfl ?_
                                refine J_iload dX7_findForm_147 rfl ?_
                                refine J_iload dX7_findForm_149 rfl ?_
                                refine Jw_callV4 (q9 := (RX7, TX7, 34)) moX7_tried jw_ml_X7_170 jw_im_X7_tried jw_se_X7_tried ha0 rfl rfl dX7_findForm_151 (w_X7_tried_z (d - 1) _ a0 x1 y42 y51 i6n129 n rw RW (by omega) hW  ha0 (by omega) (by omega) ⟨_, hO_a0, hF_n⟩ ⟨_, hO_a0, hF_rw⟩ ha_RW (by omega) (by omega) (by omega) (by omega) (by omega) (by omega) (by omega)) (by omega) (Nat.zero_le _) (Nat.zero_le _) (Nat.le_of_ble_eq_true rfl) (fun r151 V151 h151 => ?_)
                                obtain ⟨⟨y151, rfl, hl151, hh151, hP151_0⟩, hE151⟩ := h151
                                have hE151 := hE151.symm
                                subst hE151
                                clear hl151 hh151
                                have hz151 : jEq y151.toInt ((jim (x1.toInt) (fun q => (RW q).toInt) (n.toInt).toNat (y42.toInt) (decide ((y51.toInt) = 1)) (i6n129.toInt).toNat)) := hP151_0
                                clear hP151_0
                                have hjb := jim_b (g := x1.toInt) (t := y42.toInt) (T := (fun q => (RW q).toInt)) (n := n.toInt.toNat) (b := decide (y51.toInt = 1)) (by omega) (by omega) (fun q hq => hp3 q (by omega)) (i := i6n129.toInt.toNat) (by omega)
                                refine Jz_iast (r := ((-2147483648), 2147483647)) jEq.rf hz151 hW id dX7_findForm_154 hAF21n129 rfl rfl (by omega) (by omega) (by omega) (by omega) (fun V154 G154 hW hx154 hA154 hp154 ho154 => ?_)
                                obtain ⟨hN154, hv154⟩ := WT_rngI (r := ((-2147483648), 2147483647)) hW id rfl hA154
                                clear hN154
                                have he := he.trans (hx154.sub (jsub_of rfl))
                                have ha0 := ha0.mono hx154.1
                                have hb_rw := hb_rw.mono hx154.1
                                have hb_fm := hb_fm.mono hx154.1
                                have hO_a0 := hx154.2 _ _ hO_a0 (jnot_of rfl)
                                have hK_a0 := hK_a0.mono hx154.1
                                have ha_RW := hx154.2 _ _ ha_RW (jnot_of rfl)
                                refine Jz_iinc 1 dX7_findForm_155 rfl rfl (by decide) jEq.rf (by decide) (by omega) (by omega) (fun y155 he155 => ?_)
                                refine J_goto (tgt := 129) dX7_findForm_158 (by decide) ?_
                                refine J.mask [true, true, true, true, true, true, true] ?_
                                exact ih129 _ y155 G154 hW he ha0 hb_rw hb_fm hO_a0 hK_a0 hA154 ha_RW (by (try simp only [he155.eq, true_and, and_true]) <;> omega) (fun j hj => by rw [he155.eq] at hj; by_cases h9 : (j : Int) = i6n129.toInt; (have e : j = i6n129.toInt.toNat := by omega); subst e; rw [hp154, hz151.eq]; rw [ho154 j (by omega)]; exact hcp j (by omega)) (by (try simp only [he155.eq, true_and, and_true]) <;> omega)
                          refine J.mask [true, true, true, true, true, true, true] ?_
                          exact L129 _ _ i5n61 F21n30 hW he ha0 hb_rw hb_fm hO_a0 hK_a0 hAF21n30 ha_RW (by omega) (fun j hj => (heq j hj).symm) (Nat.lt_succ_self _)
                    · refine J_aload_n dX7_findForm_70 rfl ?_
                      refine J_iload_n dX7_findForm_71 rfl ?_
                      refine J_iload_n dX7_findForm_72 rfl ?_
                      refine J_iload dX7_findForm_73 rfl ?_
                      refine J_iload dX7_findForm_75 rfl ?_
                      refine Jw_callV4 (q9 := (RX7, TX7, 34)) moX7_tried jw_ml_X7_170 jw_im_X7_tried jw_se_X7_tried ha0 rfl rfl dX7_findForm_77 (w_X7_tried_z (d - 1) _ a0 x1 y42 y51 i5n61 n rw RW (by omega) hW  ha0 (by omega) (by omega) ⟨_, hO_a0, hF_n⟩ ⟨_, hO_a0, hF_rw⟩ ha_RW (by omega) (by omega) (by omega) (by omega) (by omega) (by omega) (by omega)) (by omega) (Nat.zero_le _) (Nat.zero_le _) (Nat.le_of_ble_eq_true rfl) (fun r77 V77 h77 => ?_)
                      obtain ⟨⟨y77, rfl, hl77, hh77, hP77_0⟩, hE77⟩ := h77
                      have hE77 := hE77.symm
                      subst hE77
                      clear hl77 hh77
                      have hz77 : jEq y77.toInt ((jim (x1.toInt) (fun q => (RW q).toInt) (n.toInt).toNat (y42.toInt) (decide ((y51.toInt) = 1)) (i5n61.toInt).toNat)) := hP77_0
                      clear hP77_0
                      refine J_aload_n dX7_findForm_80 rfl ?_
                      refine J_get jf_X7_31 dX7_findForm_81 hO_a0 hF_fm ?_
                      refine J_iload dX7_findForm_84 rfl ?_
                      refine Jz_iald (r := ((-2147483648), 2147483647)) jEq.rf dX7_findForm_86 hAF21n30 rfl hvF21n30 (by omega) (by omega) (fun y86 hf86 hl86 hh86 => ?_)
                      dsimp only at hl86 hh86
                      clear hl86 hh86
                      have hq86 : (F21n30 i5n61.toInt.toNat).toInt = y86.toInt := by rw [hf86]
                      refine Jz_icmp_ne (tgt := 96) hz77 jEq.rf dX7_findForm_87 (by decide) (fun c87 => ?_) (fun c87 => ?_)
                      · refine J_iload dX7_findForm_96 rfl ?_
                        refine J_aload_n dX7_findForm_98 rfl ?_
                        refine J_get jf_X7_109 dX7_findForm_99 hO_a0 hF_n ?_
                        refine Jz_icmp_ge (tgt := 161) jEq.rf jEq.rf dX7_findForm_102 (by decide) (fun c102 => ?_) (fun c102 => ?_)
                        · refine Jz_iinc 1 dX7_findForm_161 rfl rfl (by decide) jEq.rf (by decide) (by omega) (by omega) (fun y161 he161 => ?_)
                          refine J_goto (tgt := 30) dX7_findForm_164 (by decide) ?_
                          refine J.mask [true, true, true, false, false, false, false] ?_
                          exact ih30 _ y161 F21n30 hW he ha0 hb_rw hb_fm hO_a0 hK_a0 hAF21n30 ha_RW (by (try simp only [he161.eq, true_and, and_true]) <;> omega) (by rw [he161.eq, show (i2n30.toInt + 1).toNat = i2n30.toInt.toNat + 1 by omega]; exact (jbs_step (K := i2n30.toInt.toNat) (t := y42.toInt) (b := decide (y51.toInt = 1)) (by omega) (decide_eq_decide.mpr (by omega)) hb (fun z => absurd z (jlx_eq (fun j hj => heq j (by omega)))) (fun _ j _ => rfl))) (by (try simp only [he161.eq, true_and, and_true]) <;> omega)
                        · refine J_aload_n dX7_findForm_105 rfl ?_
                          refine J_iload_n dX7_findForm_106 rfl ?_
                          refine J_iload_n dX7_findForm_107 rfl ?_
                          refine J_iload dX7_findForm_108 rfl ?_
                          refine J_iload dX7_findForm_110 rfl ?_
                          have c87x : ¬ (jim x1.toInt (fun q => (RW q).toInt) n.toInt.toNat y42.toInt (decide (y51.toInt = 1)) i5n61.toInt.toNat) = (F21n30 i5n61.toInt.toNat).toInt := by first | omega | (rw [hq86]; omega)
                          refine Jw_callV4 (q9 := (RX7, TX7, 34)) moX7_tried jw_ml_X7_170 jw_im_X7_tried jw_se_X7_tried ha0 rfl rfl dX7_findForm_112 (w_X7_tried_z (d - 1) _ a0 x1 y42 y51 i5n61 n rw RW (by omega) hW  ha0 (by omega) (by omega) ⟨_, hO_a0, hF_n⟩ ⟨_, hO_a0, hF_rw⟩ ha_RW (by omega) (by omega) (by omega) (by omega) (by omega) (by omega) (by omega)) (by omega) (Nat.zero_le _) (Nat.zero_le _) (Nat.le_of_ble_eq_true rfl) (fun r112 V112 h112 => ?_)
                          obtain ⟨⟨y112, rfl, hl112, hh112, hP112_0⟩, hE112⟩ := h112
                          have hE112 := hE112.symm
                          subst hE112
                          clear hl112 hh112
                          have hz112 : jEq y112.toInt ((jim (x1.toInt) (fun q => (RW q).toInt) (n.toInt).toNat (y42.toInt) (decide ((y51.toInt) = 1)) (i5n61.toInt).toNat)) := hP112_0
                          clear hP112_0
                          refine J_aload_n dX7_findForm_115 rfl ?_
                          refine J_get jf_X7_31 dX7_findForm_116 hO_a0 hF_fm ?_
                          refine J_iload dX7_findForm_119 rfl ?_
                          refine Jz_iald (r := ((-2147483648), 2147483647)) jEq.rf dX7_findForm_121 hAF21n30 rfl hvF21n30 (by omega) (by omega) (fun y121 hf121 hl121 hh121 => ?_)
                          dsimp only at hl121 hh121
                          clear hl121 hh121
                          have he121 : jEq y121.toInt (y86.toInt) := by rw [← hf121, hf86]; exact jEq.rf
                          refine Jz_icmp_ge (tgt := 161) hz112 he121 dX7_findForm_122 (by decide) (fun c122 => ?_) (fun c122 => ?_)
                          · refine Jz_iinc 1 dX7_findForm_161 rfl rfl (by decide) jEq.rf (by decide) (by omega) (by omega) (fun y161 he161 => ?_)
                            refine J_goto (tgt := 30) dX7_findForm_164 (by decide) ?_
                            refine J.mask [true, true, true, false, false, false, false] ?_
                            exact ih30 _ y161 F21n30 hW he ha0 hb_rw hb_fm hO_a0 hK_a0 hAF21n30 ha_RW (by (try simp only [he161.eq, true_and, and_true]) <;> omega) (by rw [he161.eq, show (i2n30.toInt + 1).toNat = i2n30.toInt.toNat + 1 by omega]; exact (jbs_step (K := i2n30.toInt.toNat) (t := y42.toInt) (b := decide (y51.toInt = 1)) (by omega) (decide_eq_decide.mpr (by omega)) hb (fun z => absurd ((jlx_at (n := n.toInt.toNat) (i := i5n61.toInt.toNat) (F := (jim x1.toInt (fun q => (RW q).toInt) n.toInt.toNat y42.toInt (decide (y51.toInt = 1)))) (B := (fun q => (F21n30 q).toInt)) (by omega) (fun j hj => heq j (by omega)) (fun z => c87x z)).mp z) (fun z3 => by have z4 : (jim x1.toInt (fun q => (RW q).toInt) n.toInt.toNat y42.toInt (decide (y51.toInt = 1)) i5n61.toInt.toNat) < (F21n30 i5n61.toInt.toNat).toInt := z3; first | omega | (rw [hq86] at z4; omega))) (fun _ j _ => rfl))) (by (try simp only [he161.eq, true_and, and_true]) <;> omega)
                          · have c122x : (jim x1.toInt (fun q => (RW q).toInt) n.toInt.toNat y42.toInt (decide (y51.toInt = 1)) i5n61.toInt.toNat) < (F21n30 i5n61.toInt.toNat).toInt := by first | omega | (rw [hq86]; omega)
                            refine J_iload dX7_findForm_125 rfl ?_
                            refine J_istore dX7_findForm_127 rfl (by decide) ?_
                            have L129 : ∀ (N : Nat) (V : jH) (i6n129 : Int32) (F21n129 : Nat → Int32), WT V → jeff [.inl 21] V0 V → (jis V (.inr 5) a0) → (jis V (.inl 17) rw) → (jis V (.inl 21) fm) → (V a0 = some (.inr (5, fs_a0))) → (jokO V (jFs 5) fs_a0) → (V fm = some (.inl (21, 60, .inl F21n129))) → (V rw = some (.inl (17, 120, .inl RW))) → (i5n61.toInt ≤ i6n129.toInt ∧ i6n129.toInt ≤ n.toInt) → (∀ j : Nat, (j : Int) < i6n129.toInt → (F21n129 j).toInt = (jim x1.toInt (fun q => (RW q).toInt) n.toInt.toNat y42.toInt (decide (y51.toInt = 1)) j)) → (300 - i6n129.toInt).toNat < N → J tS mX7_findForm d 129 [some (.ref a0), some (.int x1), some (.int i2n30), some (.int y42), some (.int y51), some (.int i5n61), some (.int i6n129)] [] V 0 0 (fun r V => (jPost [.inl 21] V0 rV) r V ∧ (∃ F2 : Nat → Int32, V fm = some (.inl (21, 60, .inl F2)) ∧ ∀ j : Nat, j < n.toInt.toNat → (F2 j).toInt = jbs x1.toInt (fun q => (RW q).toInt) n.toInt.toNat (2 * jtur x1.toInt).toNat j)) := by
                              intro N
                              induction N with
                              | zero => intro V i6n129 F21n129 hW he ha0 hb_rw hb_fm hO_a0 hK_a0 hAF21n129 ha_RW hi6 hcp hm; exact absurd hm (Nat.not_lt_zero _)
                              | succ N ih =>
                                intro V i6n129 F21n129 hW he ha0 hb_rw hb_fm hO_a0 hK_a0 hAF21n129 ha_RW hi6 hcp hm
                                have ih129 := ih
                                have hri6 := j_rng i6n129
                                obtain ⟨hNF21n129, hvF21n129⟩ := WT_rngI (r := ((-2147483648), 2147483647)) hW id rfl hAF21n129
                                clear hNF21n129
                                refine J_iload dX7_findForm_129 rfl ?_
                                refine J_aload_n dX7_findForm_131 rfl ?_
                                refine J_get jf_X7_109 dX7_findForm_132 hO_a0 hF_n ?_
                                refine Jz_icmp_ge (tgt := 161) jEq.rf jEq.rf dX7_findForm_135 (by decide) (fun c135 => ?_) (fun c135 => ?_)
                                · refine Jz_iinc 1 dX7_findForm_161 rfl rfl (by decide) jEq.rf (by decide) (by omega) (by omega) (fun y161 he161 => ?_)
                                  refine J_goto (tgt := 30) dX7_findForm_164 (by decide) ?_
                                  refine J.mask [true, true, true, false, false, false, false] ?_
                                  exact ih30 _ y161 F21n129 hW he ha0 hb_rw hb_fm hO_a0 hK_a0 hAF21n129 ha_RW (by (try simp only [he161.eq, true_and, and_true]) <;> omega) (by rw [he161.eq, show (i2n30.toInt + 1).toNat = i2n30.toInt.toNat + 1 by omega]; exact (jbs_step (K := i2n30.toInt.toNat) (t := y42.toInt) (b := decide (y51.toInt = 1)) (by omega) (decide_eq_decide.mpr (by omega)) hb (fun _ j hj => hcp j (by omega)) (fun z => absurd ((jlx_at (n := n.toInt.toNat) (i := i5n61.toInt.toNat) (F := (jim x1.toInt (fun q => (RW q).toInt) n.toInt.toNat y42.toInt (decide (y51.toInt = 1)))) (B := (fun q => (F21n30 q).toInt)) (by omega) (fun j hj => heq j (by omega)) (fun z => c87x z)).mpr (by have q := c122x; omega)) z))) (by (try simp only [he161.eq, true_and, and_true]) <;> omega)
                                · refine J_aload_n dX7_findForm_138 rfl ?_
                                  refine J_get jf_X7_31 dX7_findForm_139 hO_a0 hF_fm ?_
                                  refine J_iload dX7_findForm_142 rfl ?_
                                  refine J_aload_n dX7_findForm_144 rfl ?_
                                  refine J_iload_n dX7_findForm_145 rfl ?_
                                  refine J_iload_n dX7_findForm_146 rfl ?_
                                  refine J_iload dX7_findForm_147 rfl ?_
                                  refine J_iload dX7_findForm_149 rfl ?_
                                  refine Jw_callV4 (q9 := (RX7, TX7, 34)) moX7_tried jw_ml_X7_170 jw_im_X7_tried jw_se_X7_tried ha0 rfl rfl dX7_findForm_151 (w_X7_tried_z (d - 1) _ a0 x1 y42 y51 i6n129 n rw RW (by omega) hW  ha0 (by omega) (by omega) ⟨_, hO_a0, hF_n⟩ ⟨_, hO_a0, hF_rw⟩ ha_RW (by omega) (by omega) (by omega) (by omega) (by omega) (by omega) (by omega)) (by omega) (Nat.zero_le _) (Nat.zero_le _) (Nat.le_of_ble_eq_true rfl) (fun r151 V151 h151 => ?_)
                                  obtain ⟨⟨y151, rfl, hl151, hh151, hP151_0⟩, hE151⟩ := h151
                                  have hE151 := hE151.symm
                                  subst hE151
                                  clear hl151 hh151
                                  have hz151 : jEq y151.toInt ((jim (x1.toInt) (fun q => (RW q).toInt) (n.toInt).toNat (y42.toInt) (decide ((y51.toInt) = 1)) (i6n129.toInt).toNat)) := hP151_0
                                  clear hP151_0
                                  have hjb := jim_b (g := x1.toInt) (t := y42.toInt) (T := (fun q => (RW q).toInt)) (n := n.toInt.toNat) (b := decide (y51.toInt = 1)) (by omega) (by omega) (fun q hq => hp3 q (by omega)) (i := i6n129.toInt.toNat) (by omega)
                                  refine Jz_iast (r := ((-2147483648), 2147483647)) jEq.rf hz151 hW id dX7_findForm_154 hAF21n129 rfl rfl (by omega) (by omega) (by omega) (by omega) (fun V154 G154 hW hx154 hA154 hp154 ho154 => ?_)
                                  obtain ⟨hN154, hv154⟩ := WT_rngI (r := ((-2147483648), 2147483647)) hW id rfl hA154
                                  clear hN154
                                  have he := he.trans (hx154.sub (jsub_of rfl))
                                  have ha0 := ha0.mono hx154.1
                                  have hb_rw := hb_rw.mono hx154.1
                                  have hb_fm := hb_fm.mono hx154.1
                                  have hO_a0 := hx154.2 _ _ hO_a0 (jnot_of rfl)
                                  have hK_a0 := hK_a0.mono hx154.1
                                  have ha_RW := hx154.2 _ _ ha_RW (jnot_of rfl)
                                  refine Jz_iinc 1 dX7_findForm_155 rfl rfl (by decide) jEq.rf (by decide) (by omega) (by omega) (fun y155 he155 => ?_)
                                  refine J_goto (tgt := 129) dX7_findForm_158 (by decide) ?_
                                  refine J.mask [true, true, true, true, true, true, true] ?_
                                  exact ih129 _ y155 G154 hW he ha0 hb_rw hb_fm hO_a0 hK_a0 hA154 ha_RW (by (try simp only [he155.eq, true_and, and_true]) <;> omega) (fun j hj => by rw [he155.eq] at hj; by_cases h9 : (j : Int) = i6n129.toInt; (have e : j = i6n129.toInt.toNat := by omega); subst e; rw [hp154, hz151.eq]; rw [ho154 j (by omega)]; exact hcp j (by omega)) (by (try simp only [he155.eq, true_and, and_true]) <;> omega)
                            refine J.mask [true, true, true, true, true, true, true] ?_
                            exact L129 _ _ i5n61 F21n30 hW he ha0 hb_rw hb_fm hO_a0 hK_a0 hAF21n30 ha_RW (by omega) (fun j hj => (heq j hj).symm) (Nat.lt_succ_self _)
                      · refine Jz_iinc 1 dX7_findForm_90 rfl rfl (by decide) jEq.rf (by decide) (by omega) (by omega) (fun y90 he90 => ?_)
                        refine J_goto (tgt := 61) dX7_findForm_93 (by decide) ?_
                        refine J.mask [true, true, true, true, true, true, false] ?_
                        exact ih61  y90  (by (try simp only [he90.eq, true_and, and_true]) <;> omega) (fun j hj => by rw [he90.eq] at hj; by_cases h9 : (j : Int) = i5n61.toInt; (have e : j = i5n61.toInt.toNat := by omega); subst e; rw [hf86]; omega; exact heq j (by omega)) (by (try simp only [he90.eq, true_and, and_true]) <;> omega)
                refine J.mask [true, true, true, true, true, true, false] ?_
                exact L61 _  y58    (by (try simp only [he58.eq, true_and, and_true]) <;> omega) (fun j hj => by rw [he58.eq] at hj; omega) (Nat.lt_succ_self _)
        refine J.mask [true, true, true, false, false, false, false] ?_
        exact L30 _ _ y28 F21n2 hW he ha0 hb_rw hb_fm hO_a0 hK_a0 hAF21n2 ha_RW (by rw [he28.eq]; omega) (fun j hj => by rw [he28.eq]; exact hc j (by omega)) (Nat.lt_succ_self _)
      · refine J_aload_n dX7_findForm_10 rfl ?_
        refine J_get jf_X7_31 dX7_findForm_11 hO_a0 hF_fm ?_
        refine J_iload_n dX7_findForm_14 rfl ?_
        refine J_aload_n dX7_findForm_15 rfl ?_
        refine J_get jf_X7_19 dX7_findForm_16 hO_a0 hF_rw ?_
        refine J_iload_n dX7_findForm_19 rfl ?_
        refine Jz_iald (r := ((-2147483648), 2147483647)) jEq.rf dX7_findForm_20 ha_RW rfl hv_RW (by omega) (by omega) (fun y20 hf20 hl20 hh20 => ?_)
        dsimp only at hl20 hh20
        clear hl20 hh20
        refine Jz_iast (r := ((-2147483648), 2147483647)) jEq.rf jEq.rf hW id dX7_findForm_21 hAF21n2 rfl rfl (by omega) (by omega) (j_rng _).1 (j_rng _).2 (fun V21 G21 hW hx21 hA21 hp21 ho21 => ?_)
        obtain ⟨hN21, hv21⟩ := WT_rngI (r := ((-2147483648), 2147483647)) hW id rfl hA21
        clear hN21
        have he := he.trans (hx21.sub (jsub_of rfl))
        have ha0 := ha0.mono hx21.1
        have hb_rw := hb_rw.mono hx21.1
        have hb_fm := hb_fm.mono hx21.1
        have hO_a0 := hx21.2 _ _ hO_a0 (jnot_of rfl)
        have hK_a0 := hK_a0.mono hx21.1
        have ha_RW := hx21.2 _ _ ha_RW (jnot_of rfl)
        refine Jz_iinc 1 dX7_findForm_22 rfl rfl (by decide) jEq.rf (by decide) (by omega) (by omega) (fun y22 he22 => ?_)
        refine J_goto (tgt := 2) dX7_findForm_25 (by decide) ?_
        refine J.mask [true, true, true, false, false, false, false] ?_
        exact ih2 _ y22 G21 hW he ha0 hb_rw hb_fm hO_a0 hK_a0 hA21 ha_RW (by (try simp only [he22.eq, true_and, and_true]) <;> omega) (fun j hj => by rw [he22.eq] at hj; by_cases h9 : (j : Int) = i2n2.toInt; (have e : j = i2n2.toInt.toNat := by omega); subst e; rw [hp21, hf20]; rw [ho21 j (by omega)]; exact hc j (by omega)) (by (try simp only [he22.eq, true_and, and_true]) <;> omega)
  refine J.mask [true, true, true, false, false, false, false] ?_
  exact L2 _ _ y0 FM hW he ha0 hb_rw hb_fm hO_a0 hK_a0 ha_FM ha_RW (by (try simp only [he0.eq, true_and, and_true]) <;> omega) (fun j hj => by rw [he0.eq] at hj; omega) (Nat.lt_succ_self _)
set_option maxRecDepth 100000 in
set_option maxHeartbeats 8000000 in
theorem w_X7_alike_bad {tS : jTS} (d : Nat) (V0 : jH) (a0 : Nat) (x1 : Int32) (x2 : Int32) (v0 : Int32) (gr : Nat) (mn : Nat) (sp : Nat) (rw : Nat) (px : Nat) (py : Nat) (pz : Nat) (GA : Nat → Int32) (MN : Nat → Int32) (SP : Nat → Int32) (RW : Nat → Int32) (PX : Nat → Int32) (PY : Nat → Int32) (PZ : Nat → Int32) (hd : 4 ≤ d) (hW : WT V0) (ha0 : jis V0 (.inr 5) a0) (hf_v0 : jfI V0 a0 5 0 v0) (hr_gr : jfR V0 a0 5 1 gr) (hr_mn : jfR V0 a0 5 2 mn) (hr_sp : jfR V0 a0 5 3 sp) (hr_rw : jfR V0 a0 5 4 rw) (hr_px : jfR V0 a0 5 6 px) (hr_py : jfR V0 a0 5 7 py) (hr_pz : jfR V0 a0 5 8 pz) (ha_GA : V0 gr = some (.inl (14, 16, .inl GA))) (ha_MN : V0 mn = some (.inl (15, 16, .inl MN))) (ha_SP : V0 sp = some (.inl (16, 960, .inl SP))) (ha_RW : V0 rw = some (.inl (17, 120, .inl RW))) (ha_PX : V0 px = some (.inl (18, 121, .inl PX))) (ha_PY : V0 py = some (.inl (19, 121, .inl PY))) (ha_PZ : V0 pz = some (.inl (20, 121, .inl PZ))) (hp0 : ¬ (0 ≤ x1.toInt ∧ x1.toInt < v0.toInt ∧ 0 ≤ x2.toInt ∧ x2.toInt < v0.toInt)) : jTot tS mX7_alike d [.ref a0, .int x1, .int x2] V0 0 0 (fun r V => (fun r _ => ∃ y : Int32, r = some (.int y) ∧ ((-2147483648) ≤ y.toInt) ∧ (y.toInt ≤ 2147483647) ∧ (y.toInt = -2)) r V ∧ V = V0) := by
  refine jTot.of_J [some (.ref a0), some (.int x1), some (.int x2), none, none, none] moX7_alike (Nat.le_of_ble_eq_true rfl) rfl ?_
  have hrx1 := j_rng x1
  have hrx2 := j_rng x2
  have he : jeff [] V0 V0 := jeff.refl _ _
  obtain ⟨fs_a0, hO_a0, hK_a0⟩ := WT_obj hW id ha0
  have hF_v0 := hf_v0.get hO_a0
  have hrv0 : 0 ≤ v0.toInt ∧ v0.toInt ≤ 16 := jok_rngI hK_a0 rfl hF_v0
  have hF_gr := hr_gr.get hO_a0
  obtain ⟨w_gr, hFq_gr, b_gr, hbq_gr, hb_gr⟩ := hK_a0.2 1 (.inr (some (.inl 14))) rfl
  cases hF_gr.symm.trans (hFq_gr.trans (congrArg some hbq_gr))
  have hF_mn := hr_mn.get hO_a0
  obtain ⟨w_mn, hFq_mn, b_mn, hbq_mn, hb_mn⟩ := hK_a0.2 2 (.inr (some (.inl 15))) rfl
  cases hF_mn.symm.trans (hFq_mn.trans (congrArg some hbq_mn))
  have hF_sp := hr_sp.get hO_a0
  obtain ⟨w_sp, hFq_sp, b_sp, hbq_sp, hb_sp⟩ := hK_a0.2 3 (.inr (some (.inl 16))) rfl
  cases hF_sp.symm.trans (hFq_sp.trans (congrArg some hbq_sp))
  have hF_rw := hr_rw.get hO_a0
  obtain ⟨w_rw, hFq_rw, b_rw, hbq_rw, hb_rw⟩ := hK_a0.2 4 (.inr (some (.inl 17))) rfl
  cases hF_rw.symm.trans (hFq_rw.trans (congrArg some hbq_rw))
  have hF_px := hr_px.get hO_a0
  obtain ⟨w_px, hFq_px, b_px, hbq_px, hb_px⟩ := hK_a0.2 6 (.inr (some (.inl 18))) rfl
  cases hF_px.symm.trans (hFq_px.trans (congrArg some hbq_px))
  have hF_py := hr_py.get hO_a0
  obtain ⟨w_py, hFq_py, b_py, hbq_py, hb_py⟩ := hK_a0.2 7 (.inr (some (.inl 19))) rfl
  cases hF_py.symm.trans (hFq_py.trans (congrArg some hbq_py))
  have hF_pz := hr_pz.get hO_a0
  obtain ⟨w_pz, hFq_pz, b_pz, hbq_pz, hb_pz⟩ := hK_a0.2 8 (.inr (some (.inl 20))) rfl
  cases hF_pz.symm.trans (hFq_pz.trans (congrArg some hbq_pz))
  obtain ⟨hN_GA, hv_GA⟩ := WT_rngI (r := (0, 3)) hW id rfl ha_GA
  clear hN_GA
  obtain ⟨hN_MN, hv_MN⟩ := WT_rngI (r := (0, 60)) hW id rfl ha_MN
  clear hN_MN
  obtain ⟨hN_SP, hv_SP⟩ := WT_rngI (r := ((-2147483648), 2147483647)) hW id rfl ha_SP
  clear hN_SP
  obtain ⟨hN_RW, hv_RW⟩ := WT_rngI (r := ((-2147483648), 2147483647)) hW id rfl ha_RW
  clear hN_RW
  obtain ⟨hN_PX, hv_PX⟩ := WT_rngI (r := ((-2147483648), 2147483647)) hW id rfl ha_PX
  clear hN_PX
  obtain ⟨hN_PY, hv_PY⟩ := WT_rngI (r := ((-2147483648), 2147483647)) hW id rfl ha_PY
  clear hN_PY
  obtain ⟨hN_PZ, hv_PZ⟩ := WT_rngI (r := ((-2147483648), 2147483647)) hW id rfl ha_PZ
  clear hN_PZ
  refine J_aload_n dX7_alike_0 rfl ?_
  refine J_iload_n dX7_alike_1 rfl ?_
  refine Jw_callV1 (q9 := (RX7, TX7, 34)) moX7_isWalk jw_ml_X7_130 jw_im_X7_isWalk jw_se_X7_isWalk ha0 rfl rfl dX7_alike_2 (w_X7_isWalk_z (d - 1) _ a0 x1 v0 (by omega) hW  ha0 ⟨_, hO_a0, hF_v0⟩) (by omega) (Nat.zero_le _) (Nat.zero_le _) (Nat.le_of_ble_eq_true rfl) (fun r2 V2 h2 => ?_)
  obtain ⟨⟨y2, rfl, hl2, hh2, hP2_0⟩, hE2⟩ := h2
  have hE2 := hE2.symm
  subst hE2
  refine Jz_if_eq (tgt := 16) jEq.rf dX7_alike_5 (by decide) (fun c5 => ?_) (fun c5 => ?_)
  · refine Jz_bipush (-2) dX7_alike_16 (by decide) (fun y16 he16 => ?_)
    exact J_ret (r := some (.int _)) dX7_alike_18 ⟨rfl, _, rfl, rfl⟩ (⟨⟨_, rfl, (j_rng _).1, (j_rng _).2, (by (try simp only [he16.eq, true_and, and_true]) <;> omega)⟩, rfl⟩)
  · refine J_aload_n dX7_alike_8 rfl ?_
    refine J_iload_n dX7_alike_9 rfl ?_
    refine Jw_callV1 (q9 := (RX7, TX7, 34)) moX7_isWalk jw_ml_X7_130 jw_im_X7_isWalk jw_se_X7_isWalk ha0 rfl rfl dX7_alike_10 (w_X7_isWalk_z (d - 1) _ a0 x2 v0 (by omega) hW  ha0 ⟨_, hO_a0, hF_v0⟩) (by omega) (Nat.zero_le _) (Nat.zero_le _) (Nat.le_of_ble_eq_true rfl) (fun r10 V10 h10 => ?_)
    obtain ⟨⟨y10, rfl, hl10, hh10, hP10_0⟩, hE10⟩ := h10
    have hE10 := hE10.symm
    subst hE10
    refine Jz_if_ne (tgt := 19) jEq.rf dX7_alike_13 (by decide) (fun c13 => ?_) (fun c13 => ?_)
    · exact False.elim (by omega)
    · refine Jz_bipush (-2) dX7_alike_16 (by decide) (fun y16 he16 => ?_)
      exact J_ret (r := some (.int _)) dX7_alike_18 ⟨rfl, _, rfl, rfl⟩ (⟨⟨_, rfl, (j_rng _).1, (j_rng _).2, (by (try simp only [he16.eq, true_and, and_true]) <;> omega)⟩, rfl⟩)
