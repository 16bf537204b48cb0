set_option maxRecDepth 100000 in
set_option maxHeartbeats 4000000 in
theorem w_X7_axis_z {tS : jTS} (d : Nat) (V0 : jH) (x0 : Int32) (x1 : Int32)  (hd : 0 ≤ d)    (hp0 : 0 ≤ x0.toInt) (hp1 : x0.toInt < 6) (hp2 : 0 ≤ x1.toInt) (hp3 : x1.toInt < 3) : jTot tS mX7_axis d [.int x0, .int x1] V0 0 0 (fun r V => (fun r _ => ∃ y : Int32, r = some (.int y) ∧ ((-2147483648) ≤ y.toInt) ∧ (y.toInt ≤ 2147483647) ∧ (y = jaxI x0 x1)) r V ∧ V = V0) := by
  refine jTot.of_J [some (.int x0), some (.int x1), none, none, none] moX7_axis (Nat.le_of_ble_eq_true rfl) rfl ?_
  refine J_iload_n dX7_axis_0 rfl ?_
  refine J_iconst (v := 2) dX7_axis_1 (by decide) ?_
  refine J_idiv dX7_axis_2 (by decide) ?_
  refine J_istore_n dX7_axis_3 rfl (by decide) ?_
  refine J_iload_n dX7_axis_4 rfl ?_
  refine J_if_ne (tgt := 10) dX7_axis_5 (by decide) (fun c5 => ?_) (fun c5 => ?_)
  · refine J_iload_n dX7_axis_10 rfl ?_
    refine J_if_ne (tgt := 18) dX7_axis_11 (by decide) (fun c11 => ?_) (fun c11 => ?_)
    · refine J_iconst (v := 0) dX7_axis_18 (by decide) ?_
      refine J_istore_n dX7_axis_19 rfl (by decide) ?_
      refine J_iload_n dX7_axis_20 rfl ?_
      refine J_iconst (v := 2) dX7_axis_21 (by decide) ?_
      refine J_icmp_ne (tgt := 29) dX7_axis_22 (by decide) (fun c22 => ?_) (fun c22 => ?_)
      · refine J_iconst (v := 2) dX7_axis_29 (by decide) ?_
        refine J_istore dX7_axis_30 rfl (by decide) ?_
        refine J_iload_n dX7_axis_32 rfl ?_
        refine J_iconst (v := 1) dX7_axis_33 (by decide) ?_
        refine J_icmp_ne (tgt := 41) dX7_axis_34 (by decide) (fun c34 => ?_) (fun c34 => ?_)
        · refine J_iconst (v := 0) dX7_axis_41 (by decide) ?_
          refine J_iload_n dX7_axis_42 rfl ?_
          refine J_iconst (v := 2) dX7_axis_43 (by decide) ?_
          refine J_irem dX7_axis_44 (by decide) ?_
          refine J_if_ne (tgt := 52) dX7_axis_45 (by decide) (fun c45 => ?_) (fun c45 => ?_)
          · refine J_iconst (v := 0) dX7_axis_52 (by decide) ?_
            refine J_icmp_ne (tgt := 60) dX7_axis_53 (by decide) (fun c53 => ?_) (fun c53 => ?_)
            · refine J_iload dX7_axis_60 rfl ?_
              exact J_ret (r := some (.int _)) dX7_axis_62 ⟨rfl, _, rfl, rfl⟩ (⟨⟨_, rfl, (j_rng _).1, (j_rng _).2, (by have hbx0 : x0.toInt < 6 := hp1; have hbx1 : x1.toInt < 3 := hp3; obtain ⟨nx0, hnx0, rfl⟩ := jnat hp0 hbx0 (by decide); obtain ⟨nx1, hnx1, rfl⟩ := jnat hp2 hbx1 (by decide); clear hbx0 hbx1; clear hp0 hp1 hp2 hp3; have hcs := (jband (decide_eq_true c5) (jband (decide_eq_true c11) (jband (decide_eq_true c22) (jband (decide_eq_true c34) (jband (decide_eq_true c45) (decide_eq_true c53)))))); clear c5 c11 c22 c34 c45 c53; apply of_decide_eq_true; revert hcs; revert nx1; revert nx0; decide +kernel)⟩, rfl⟩)
            · refine J_iload_n dX7_axis_56 rfl ?_
              refine J_goto (tgt := 62) dX7_axis_57 (by decide) ?_
              exact J_ret (r := some (.int _)) dX7_axis_62 ⟨rfl, _, rfl, rfl⟩ (⟨⟨_, rfl, (j_rng _).1, (j_rng _).2, (by have hbx0 : x0.toInt < 6 := hp1; have hbx1 : x1.toInt < 3 := hp3; obtain ⟨nx0, hnx0, rfl⟩ := jnat hp0 hbx0 (by decide); obtain ⟨nx1, hnx1, rfl⟩ := jnat hp2 hbx1 (by decide); clear hbx0 hbx1; clear hp0 hp1 hp2 hp3; have hcs := (jband (decide_eq_true c5) (jband (decide_eq_true c11) (jband (decide_eq_true c22) (jband (decide_eq_true c34) (jband (decide_eq_true c45) (decide_eq_true c53)))))); clear c5 c11 c22 c34 c45 c53; apply of_decide_eq_true; revert hcs; revert nx1; revert nx0; decide +kernel)⟩, rfl⟩)
          · refine J_iconst (v := 1) dX7_axis_48 (by decide) ?_
            refine J_goto (tgt := 53) dX7_axis_49 (by decide) ?_
            refine J_icmp_ne (tgt := 60) dX7_axis_53 (by decide) (fun c53 => ?_) (fun c53 => ?_)
            · refine J_iload dX7_axis_60 rfl ?_
              exact J_ret (r := some (.int _)) dX7_axis_62 ⟨rfl, _, rfl, rfl⟩ (⟨⟨_, rfl, (j_rng _).1, (j_rng _).2, (by have hbx0 : x0.toInt < 6 := hp1; have hbx1 : x1.toInt < 3 := hp3; obtain ⟨nx0, hnx0, rfl⟩ := jnat hp0 hbx0 (by decide); obtain ⟨nx1, hnx1, rfl⟩ := jnat hp2 hbx1 (by decide); clear hbx0 hbx1; clear hp0 hp1 hp2 hp3; have hcs := (jband (decide_eq_true c5) (jband (decide_eq_true c11) (jband (decide_eq_true c22) (jband (decide_eq_true c34) (jband (decide_eq_true c45) (decide_eq_true c53)))))); clear c5 c11 c22 c34 c45 c53; apply of_decide_eq_true; revert hcs; revert nx1; revert nx0; decide +kernel)⟩, rfl⟩)
            · refine J_iload_n dX7_axis_56 rfl ?_
              refine J_goto (tgt := 62) dX7_axis_57 (by decide) ?_
              exact J_ret (r := some (.int _)) dX7_axis_62 ⟨rfl, _, rfl, rfl⟩ (⟨⟨_, rfl, (j_rng _).1, (j_rng _).2, (by have hbx0 : x0.toInt < 6 := hp1; have hbx1 : x1.toInt < 3 := hp3; obtain ⟨nx0, hnx0, rfl⟩ := jnat hp0 hbx0 (by decide); obtain ⟨nx1, hnx1, rfl⟩ := jnat hp2 hbx1 (by decide); clear hbx0 hbx1; clear hp0 hp1 hp2 hp3; have hcs := (jband (decide_eq_true c5) (jband (decide_eq_true c11) (jband (decide_eq_true c22) (jband (decide_eq_true c34) (jband (decide_eq_true c45) (decide_eq_true c53)))))); clear c5 c11 c22 c34 c45 c53; apply of_decide_eq_true; revert hcs; revert nx1; revert nx0; decide +kernel)⟩, rfl⟩)
        · refine J_iconst (v := 1) dX7_axis_37 (by decide) ?_
          refine J_goto (tgt := 42) dX7_axis_38 (by decide) ?_
          refine J_iload_n dX7_axis_42 rfl ?_
          refine J_iconst (v := 2) dX7_axis_43 (by decide) ?_
          refine J_irem dX7_axis_44 (by decide) ?_
          refine J_if_ne (tgt := 52) dX7_axis_45 (by decide) (fun c45 => ?_) (fun c45 => ?_)
          · refine J_iconst (v := 0) dX7_axis_52 (by decide) ?_
            refine J_icmp_ne (tgt := 60) dX7_axis_53 (by decide) (fun c53 => ?_) (fun c53 => ?_)
            · refine J_iload dX7_axis_60 rfl ?_
              exact J_ret (r := some (.int _)) dX7_axis_62 ⟨rfl, _, rfl, rfl⟩ (⟨⟨_, rfl, (j_rng _).1, (j_rng _).2, (by have hbx0 : x0.toInt < 6 := hp1; have hbx1 : x1.toInt < 3 := hp3; obtain ⟨nx0, hnx0, rfl⟩ := jnat hp0 hbx0 (by decide); obtain ⟨nx1, hnx1, rfl⟩ := jnat hp2 hbx1 (by decide); clear hbx0 hbx1; clear hp0 hp1 hp2 hp3; have hcs := (jband (decide_eq_true c5) (jband (decide_eq_true c11) (jband (decide_eq_true c22) (jband (decide_eq_true c34) (jband (decide_eq_true c45) (decide_eq_true c53)))))); clear c5 c11 c22 c34 c45 c53; apply of_decide_eq_true; revert hcs; revert nx1; revert nx0; decide +kernel)⟩, rfl⟩)
            · refine J_iload_n dX7_axis_56 rfl ?_
              refine J_goto (tgt := 62) dX7_axis_57 (by decide) ?_
              exact J_ret (r := some (.int _)) dX7_axis_62 ⟨rfl, _, rfl, rfl⟩ (⟨⟨_, rfl, (j_rng _).1, (j_rng _).2, (by have hbx0 : x0.toInt < 6 := hp1; have hbx1 : x1.toInt < 3 := hp3; obtain ⟨nx0, hnx0, rfl⟩ := jnat hp0 hbx0 (by decide); obtain ⟨nx1, hnx1, rfl⟩ := jnat hp2 hbx1 (by decide); clear hbx0 hbx1; clear hp0 hp1 hp2 hp3; have hcs := (jband (decide_eq_true c5) (jband (decide_eq_true c11) (jband (decide_eq_true c22) (jband (decide_eq_true c34) (jband (decide_eq_true c45) (decide_eq_true c53)))))); clear c5 c11 c22 c34 c45 c53; apply of_decide_eq_true; revert hcs; revert nx1; revert nx0; decide +kernel)⟩, rfl⟩)
          · refine J_iconst (v := 1) dX7_axis_48 (by decide) ?_
            refine J_goto (tgt := 53) dX7_axis_49 (by decide) ?_
            refine J_icmp_ne (tgt := 60) dX7_axis_53 (by decide) (fun c53 => ?_) (fun c53 => ?_)
            · refine J_iload dX7_axis_60 rfl ?_
              exact J_ret (r := some (.int _)) dX7_axis_62 ⟨rfl, _, rfl, rfl⟩ (⟨⟨_, rfl, (j_rng _).1, (j_rng _).2, (by have hbx0 : x0.toInt < 6 := hp1; have hbx1 : x1.toInt < 3 := hp3; obtain ⟨nx0, hnx0, rfl⟩ := jnat hp0 hbx0 (by decide); obtain ⟨nx1, hnx1, rfl⟩ := jnat hp2 hbx1 (by decide); clear hbx0 hbx1; clear hp0 hp1 hp2 hp3; have hcs := (jband (decide_eq_true c5) (jband (decide_eq_true c11) (jband (decide_eq_true c22) (jband (decide_eq_true c34) (jband (decide_eq_true c45) (decide_eq_true c53)))))); clear c5 c11 c22 c34 c45 c53; apply of_decide_eq_true; revert hcs; revert nx1; revert nx0; decide +kernel)⟩, rfl⟩)
            · refine J_iload_n dX7_axis_56 rfl ?_
              refine J_goto (tgt := 62) dX7_axis_57 (by decide) ?_
              exact J_ret (r := some (.int _)) dX7_axis_62 ⟨rfl, _, rfl, rfl⟩ (⟨⟨_, rfl, (j_rng _).1, (j_rng _).2, (by have hbx0 : x0.toInt < 6 := hp1; have hbx1 : x1.toInt < 3 := hp3; obtain ⟨nx0, hnx0, rfl⟩ := jnat hp0 hbx0 (by decide); obtain ⟨nx1, hnx1, rfl⟩ := jnat hp2 hbx1 (by decide); clear hbx0 hbx1; clear hp0 hp1 hp2 hp3; have hcs := (jband (decide_eq_true c5) (jband (decide_eq_true c11) (jband (decide_eq_true c22) (jband (decide_eq_true c34) (jband (decide_eq_true c45) (decide_eq_true c53)))))); clear c5 c11 c22 c34 c45 c53; apply of_decide_eq_true; revert hcs; revert nx1; revert nx0; decide +kernel)⟩, rfl⟩)
      · refine J_iconst (v := 1) dX7_axis_25 (by decide) ?_
        refine J_goto (tgt := 30) dX7_axis_26 (by decide) ?_
        refine J_istore dX7_axis_30 rfl (by decide) ?_
        refine J_iload_n dX7_axis_32 rfl ?_
        refine J_iconst (v := 1) dX7_axis_33 (by decide) ?_
        refine J_icmp_ne (tgt := 41) dX7_axis_34 (by decide) (fun c34 => ?_) (fun c34 => ?_)
        · refine J_iconst (v := 0) dX7_axis_41 (by decide) ?_
          refine J_iload_n dX7_axis_42 rfl ?_
          refine J_iconst (v := 2) dX7_axis_43 (by decide) ?_
          refine J_irem dX7_axis_44 (by decide) ?_
          refine J_if_ne (tgt := 52) dX7_axis_45 (by decide) (fun c45 => ?_) (fun c45 => ?_)
          · refine J_iconst (v := 0) dX7_axis_52 (by decide) ?_
            refine J_icmp_ne (tgt := 60) dX7_axis_53 (by decide) (fun c53 => ?_) (fun c53 => ?_)
            · refine J_iload dX7_axis_60 rfl ?_
              exact J_ret (r := some (.int _)) dX7_axis_62 ⟨rfl, _, rfl, rfl⟩ (⟨⟨_, rfl, (j_rng _).1, (j_rng _).2, (by have hbx0 : x0.toInt < 6 := hp1; have hbx1 : x1.toInt < 3 := hp3; obtain ⟨nx0, hnx0, rfl⟩ := jnat hp0 hbx0 (by decide); obtain ⟨nx1, hnx1, rfl⟩ := jnat hp2 hbx1 (by decide); clear hbx0 hbx1; clear hp0 hp1 hp2 hp3; have hcs := (jband (decide_eq_true c5) (jband (decide_eq_true c11) (jband (decide_eq_true c22) (jband (decide_eq_true c34) (jband (decide_eq_true c45) (decide_eq_true c53)))))); clear c5 c11 c22 c34 c45 c53; apply of_decide_eq_true; revert hcs; revert nx1; revert nx0; decide +kernel)⟩, rfl⟩)
            · refine J_iload_n dX7_axis_56 rfl ?_
              refine J_goto (tgt := 62) dX7_axis_57 (by decide) ?_
              exact J_ret (r := some (.int _)) dX7_axis_62 ⟨rfl, _, rfl, rfl⟩ (⟨⟨_, rfl, (j_rng _).1, (j_rng _).2, (by have hbx0 : x0.toInt < 6 := hp1; have hbx1 : x1.toInt < 3 := hp3; obtain ⟨nx0, hnx0, rfl⟩ := jnat hp0 hbx0 (by decide); obtain ⟨nx1, hnx1, rfl⟩ := jnat hp2 hbx1 (by decide); clear hbx0 hbx1; clear hp0 hp1 hp2 hp3; have hcs := (jband (decide_eq_true c5) (jband (decide_eq_true c11) (jband (decide_eq_true c22) (jband (decide_eq_true c34) (jband (decide_eq_true c45) (decide_eq_true c53)))))); clear c5 c11 c22 c34 c45 c53; apply of_decide_eq_true; revert hcs; revert nx1; revert nx0; decide +kernel)⟩, rfl⟩)
          · refine J_iconst (v := 1) dX7_axis_48 (by decide) ?_
            refine J_goto (tgt := 53) dX7_axis_49 (by decide) ?_
            refine J_icmp_ne (tgt := 60) dX7_axis_53 (by decide) (fun c53 => ?_) (fun c53 => ?_)
            · refine J_iload dX7_axis_60 rfl ?_
              exact J_ret (r := some (.int _)) dX7_axis_62 ⟨rfl, _, rfl, rfl⟩ (⟨⟨_, rfl, (j_rng _).1, (j_rng _).2, (by have hbx0 : x0.toInt < 6 := hp1; have hbx1 : x1.toInt < 3 := hp3; obtain ⟨nx0, hnx0, rfl⟩ := jnat hp0 hbx0 (by decide); obtain ⟨nx1, hnx1, rfl⟩ := jnat hp2 hbx1 (by decide); clear hbx0 hbx1; clear hp0 hp1 hp2 hp3; have hcs := (jband (decide_eq_true c5) (jband (decide_eq_true c11) (jband (decide_eq_true c22) (jband (decide_eq_true c34) (jband (decide_eq_true c45) (decide_eq_true c53)))))); clear c5 c11 c22 c34 c45 c53; apply of_decide_eq_true; revert hcs; revert nx1; revert nx0; decide +kernel)⟩, rfl⟩)
            · refine J_iload_n dX7_axis_56 rfl ?_
              refine J_goto (tgt := 62) dX7_axis_57 (by decide) ?_
              exact J_ret (r := some (.int _)) dX7_axis_62 ⟨rfl, _, rfl, rfl⟩ (⟨⟨_, rfl, (j_rng _).1, (j_rng _).2, (by have hbx0 : x0.toInt < 6 := hp1; have hbx1 : x1.toInt < 3 := hp3; obtain ⟨nx0, hnx0, rfl⟩ := jnat hp0 hbx0 (by decide); obtain ⟨nx1, hnx1, rfl⟩ := jnat hp2 hbx1 (by decide); clear hbx0 hbx1; clear hp0 hp1 hp2 hp3; have hcs := (jband (decide_eq_true c5) (jband (decide_eq_true c11) (jband (decide_eq_true c22) (jband (decide_eq_true c34) (jband (decide_eq_true c45) (decide_eq_true c53)))))); clear c5 c11 c22 c34 c45 c53; apply of_decide_eq_true; revert hcs; revert nx1; revert nx0; decide +kernel)⟩, rfl⟩)
        · refine J_iconst (v := 1) dX7_axis_37 (by decide) ?_
          refine J_goto (tgt := 42) dX7_axis_38 (by decide) ?_
          refine J_iload_n dX7_axis_42 rfl ?_
          refine J_iconst (v := 2) dX7_axis_43 (by decide) ?_
          refine J_irem dX7_axis_44 (by decide) ?_
          refine J_if_ne (tgt := 52) dX7_axis_45 (by decide) (fun c45 => ?_) (fun c45 => ?_)
          · refine J_iconst (v := 0) dX7_axis_52 (by decide) ?_
            refine J_icmp_ne (tgt := 60) dX7_axis_53 (by decide) (fun c53 => ?_) (fun c53 => ?_)
            · refine J_iload dX7_axis_60 rfl ?_
              exact J_ret (r := some (.int _)) dX7_axis_62 ⟨rfl, _, rfl, rfl⟩ (⟨⟨_, rfl, (j_rng _).1, (j_rng _).2, (by have hbx0 : x0.toInt < 6 := hp1; have hbx1 : x1.toInt < 3 := hp3; obtain ⟨nx0, hnx0, rfl⟩ := jnat hp0 hbx0 (by decide); obtain ⟨nx1, hnx1, rfl⟩ := jnat hp2 hbx1 (by decide); clear hbx0 hbx1; clear hp0 hp1 hp2 hp3; have hcs := (jband (decide_eq_true c5) (jband (decide_eq_true c11) (jband (decide_eq_true c22) (jband (decide_eq_true c34) (jband (decide_eq_true c45) (decide_eq_true c53)))))); clear c5 c11 c22 c34 c45 c53; apply of_decide_eq_true; revert hcs; revert nx1; revert nx0; decide +kernel)⟩, rfl⟩)
            · refine J_iload_n dX7_axis_56 rfl ?_
              refine J_goto (tgt := 62) dX7_axis_57 (by decide) ?_
              exact J_ret (r := some (.int _)) dX7_axis_62 ⟨rfl, _, rfl, rfl⟩ (⟨⟨_, rfl, (j_rng _).1, (j_rng _).2, (by have hbx0 : x0.toInt < 6 := hp1; have hbx1 : x1.toInt < 3 := hp3; obtain ⟨nx0, hnx0, rfl⟩ := jnat hp0 hbx0 (by decide); obtain ⟨nx1, hnx1, rfl⟩ := jnat hp2 hbx1 (by decide); clear hbx0 hbx1; clear hp0 hp1 hp2 hp3; have hcs := (jband (decide_eq_true c5) (jband (decide_eq_true c11) (jband (decide_eq_true c22) (jband (decide_eq_true c34) (jband (decide_eq_true c45) (decide_eq_true c53)))))); clear c5 c11 c22 c34 c45 c53; apply of_decide_eq_true; revert hcs; revert nx1; revert nx0; decide +kernel)⟩, rfl⟩)
          · refine J_iconst (v := 1) dX7_axis_48 (by decide) ?_
            refine J_goto (tgt := 53) dX7_axis_49 (by decide) ?_
            refine J_icmp_ne (tgt := 60) dX7_axis_53 (by decide) (fun c53 => ?_) (fun c53 => ?_)
            · refine J_iload dX7_axis_60 rfl ?_
              exact J_ret (r := some (.int _)) dX7_axis_62 ⟨rfl, _, rfl, rfl⟩ (⟨⟨_, rfl, (j_rng _).1, (j_rng _).2, (by have hbx0 : x0.toInt < 6 := hp1; have hbx1 : x1.toInt < 3 := hp3; obtain ⟨nx0, hnx0, rfl⟩ := jnat hp0 hbx0 (by decide); obtain ⟨nx1, hnx1, rfl⟩ := jnat hp2 hbx1 (by decide); clear hbx0 hbx1; clear hp0 hp1 hp2 hp3; have hcs := (jband (decide_eq_true c5) (jband (decide_eq_true c11) (jband (decide_eq_true c22) (jband (decide_eq_true c34) (jband (decide_eq_true c45) (decide_eq_true c53)))))); clear c5 c11 c22 c34 c45 c53; apply of_decide_eq_true; revert hcs; revert nx1; revert nx0; decide +kernel)⟩, rfl⟩)
            · refine J_iload_n dX7_axis_56 rfl ?_
              refine J_goto (tgt := 62) dX7_axis_57 (by decide) ?_
              exact J_ret (r := some (.int _)) dX7_axis_62 ⟨rfl, _, rfl, rfl⟩ (⟨⟨_, rfl, (j_rng _).1, (j_rng _).2, (by have hbx0 : x0.toInt < 6 := hp1; have hbx1 : x1.toInt < 3 := hp3; obtain ⟨nx0, hnx0, rfl⟩ := jnat hp0 hbx0 (by decide); obtain ⟨nx1, hnx1, rfl⟩ := jnat hp2 hbx1 (by decide); clear hbx0 hbx1; clear hp0 hp1 hp2 hp3; have hcs := (jband (decide_eq_true c5) (jband (decide_eq_true c11) (jband (decide_eq_true c22) (jband (decide_eq_true c34) (jband (decide_eq_true c45) (decide_eq_true c53)))))); clear c5 c11 c22 c34 c45 c53; apply of_decide_eq_true; revert hcs; revert nx1; revert nx0; decide +kernel)⟩, rfl⟩)
    · refine J_iconst (v := 1) dX7_axis_14 (by decide) ?_
      refine J_goto (tgt := 19) dX7_axis_15 (by decide) ?_
      refine J_istore_n dX7_axis_19 rfl (by decide) ?_
      refine J_iload_n dX7_axis_20 rfl ?_
      refine J_iconst (v := 2) dX7_axis_21 (by decide) ?_
      refine J_icmp_ne (tgt := 29) dX7_axis_22 (by decide) (fun c22 => ?_) (fun c22 => ?_)
      · refine J_iconst (v := 2) dX7_axis_29 (by decide) ?_
        refine J_istore dX7_axis_30 rfl (by decide) ?_
        refine J_iload_n dX7_axis_32 rfl ?_
        refine J_iconst (v := 1) dX7_axis_33 (by decide) ?_
        refine J_icmp_ne (tgt := 41) dX7_axis_34 (by decide) (fun c34 => ?_) (fun c34 => ?_)
        · refine J_iconst (v := 0) dX7_axis_41 (by decide) ?_
          refine J_iload_n dX7_axis_42 rfl ?_
          refine J_iconst (v := 2) dX7_axis_43 (by decide) ?_
          refine J_irem dX7_axis_44 (by decide) ?_
          refine J_if_ne (tgt := 52) dX7_axis_45 (by decide) (fun c45 => ?_) (fun c45 => ?_)
          · refine J_iconst (v := 0) dX7_axis_52 (by decide) ?_
            refine J_icmp_ne (tgt := 60) dX7_axis_53 (by decide) (fun c53 => ?_) (fun c53 => ?_)
            · refine J_iload dX7_axis_60 rfl ?_
              exact J_ret (r := some (.int _)) dX7_axis_62 ⟨rfl, _, rfl, rfl⟩ (⟨⟨_, rfl, (j_rng _).1, (j_rng _).2, (by have hbx0 : x0.toInt < 6 := hp1; have hbx1 : x1.toInt < 3 := hp3; obtain ⟨nx0, hnx0, rfl⟩ := jnat hp0 hbx0 (by decide); obtain ⟨nx1, hnx1, rfl⟩ := jnat hp2 hbx1 (by decide); clear hbx0 hbx1; clear hp0 hp1 hp2 hp3; have hcs := (jband (decide_eq_true c5) (jband (decide_eq_true c11) (jband (decide_eq_true c22) (jband (decide_eq_true c34) (jband (decide_eq_true c45) (decide_eq_true c53)))))); clear c5 c11 c22 c34 c45 c53; apply of_decide_eq_true; revert hcs; revert nx1; revert nx0; decide +kernel)⟩, rfl⟩)
            · refine J_iload_n dX7_axis_56 rfl ?_
              refine J_goto (tgt := 62) dX7_axis_57 (by decide) ?_
              exact J_ret (r := some (.int _)) dX7_axis_62 ⟨rfl, _, rfl, rfl⟩ (⟨⟨_, rfl, (j_rng _).1, (j_rng _).2, (by have hbx0 : x0.toInt < 6 := hp1; have hbx1 : x1.toInt < 3 := hp3; obtain ⟨nx0, hnx0, rfl⟩ := jnat hp0 hbx0 (by decide); obtain ⟨nx1, hnx1, rfl⟩ := jnat hp2 hbx1 (by decide); clear hbx0 hbx1; clear hp0 hp1 hp2 hp3; have hcs := (jband (decide_eq_true c5) (jband (decide_eq_true c11) (jband (decide_eq_true c22) (jband (decide_eq_true c34) (jband (decide_eq_true c45) (decide_eq_true c53)))))); clear c5 c11 c22 c34 c45 c53; apply of_decide_eq_true; revert hcs; revert nx1; revert nx0; decide +kernel)⟩, rfl⟩)
          · refine J_iconst (v := 1) dX7_axis_48 (by decide) ?_
            refine J_goto (tgt := 53) dX7_axis_49 (by decide) ?_
            refine J_icmp_ne (tgt := 60) dX7_axis_53 (by decide) (fun c53 => ?_) (fun c53 => ?_)
            · refine J_iload dX7_axis_60 rfl ?_
              exact J_ret (r := some (.int _)) dX7_axis_62 ⟨rfl, _, rfl, rfl⟩ (⟨⟨_, rfl, (j_rng _).1, (j_rng _).2, (by have hbx0 : x0.toInt < 6 := hp1; have hbx1 : x1.toInt < 3 := hp3; obtain ⟨nx0, hnx0, rfl⟩ := jnat hp0 hbx0 (by decide); obtain ⟨nx1, hnx1, rfl⟩ := jnat hp2 hbx1 (by decide); clear hbx0 hbx1; clear hp0 hp1 hp2 hp3; have hcs := (jband (decide_eq_true c5) (jband (decide_eq_true c11) (jband (decide_eq_true c22) (jband (decide_eq_true c34) (jband (decide_eq_true c45) (decide_eq_true c53)))))); clear c5 c11 c22 c34 c45 c53; apply of_decide_eq_true; revert hcs; revert nx1; revert nx0; decide +kernel)⟩, rfl⟩)
            · refine J_iload_n dX7_axis_56 rfl ?_
              refine J_goto (tgt := 62) dX7_axis_57 (by decide) ?_
              exact J_ret (r := some (.int _)) dX7_axis_62 ⟨rfl, _, rfl, rfl⟩ (⟨⟨_, rfl, (j_rng _).1, (j_rng _).2, (by have hbx0 : x0.toInt < 6 := hp1; have hbx1 : x1.toInt < 3 := hp3; obtain ⟨nx0, hnx0, rfl⟩ := jnat hp0 hbx0 (by decide); obtain ⟨nx1, hnx1, rfl⟩ := jnat hp2 hbx1 (by decide); clear hbx0 hbx1; clear hp0 hp1 hp2 hp3; have hcs := (jband (decide_eq_true c5) (jband (decide_eq_true c11) (jband (decide_eq_true c22) (jband (decide_eq_true c34) (jband (decide_eq_true c45) (decide_eq_true c53)))))); clear c5 c11 c22 c34 c45 c53; apply of_decide_eq_true; revert hcs; revert nx1; revert nx0; decide +kernel)⟩, rfl⟩)
        · refine J_iconst (v := 1) dX7_axis_37 (by decide) ?_
          refine J_goto (tgt := 42) dX7_axis_38 (by decide) ?_
          refine J_iload_n dX7_axis_42 rfl ?_
          refine J_iconst (v := 2) dX7_axis_43 (by decide) ?_
          refine J_irem dX7_axis_44 (by decide) ?_
          refine J_if_ne (tgt := 52) dX7_axis_45 (by decide) (fun c45 => ?_) (fun c45 => ?_)
          · refine J_iconst (v := 0) dX7_axis_52 (by decide) ?_
            refine J_icmp_ne (tgt := 60) dX7_axis_53 (by decide) (fun c53 => ?_) (fun c53 => ?_)
            · refine J_iload dX7_axis_60 rfl ?_
              exact J_ret (r := some (.int _)) dX7_axis_62 ⟨rfl, _, rfl, rfl⟩ (⟨⟨_, rfl, (j_rng _).1, (j_rng _).2, (by have hbx0 : x0.toInt < 6 := hp1; have hbx1 : x1.toInt < 3 := hp3; obtain ⟨nx0, hnx0, rfl⟩ := jnat hp0 hbx0 (by decide); obtain ⟨nx1, hnx1, rfl⟩ := jnat hp2 hbx1 (by decide); clear hbx0 hbx1; clear hp0 hp1 hp2 hp3; have hcs := (jband (decide_eq_true c5) (jband (decide_eq_true c11) (jband (decide_eq_true c22) (jband (decide_eq_true c34) (jband (decide_eq_true c45) (decide_eq_true c53)))))); clear c5 c11 c22 c34 c45 c53; apply of_decide_eq_true; revert hcs; revert nx1; revert nx0; decide +kernel)⟩, rfl⟩)
            · refine J_iload_n dX7_axis_56 rfl ?_
              refine J_goto (tgt := 62) dX7_axis_57 (by decide) ?_
              exact J_ret (r := some (.int _)) dX7_axis_62 ⟨rfl, _, rfl, rfl⟩ (⟨⟨_, rfl, (j_rng _).1, (j_rng _).2, (by have hbx0 : x0.toInt < 6 := hp1; have hbx1 : x1.toInt < 3 := hp3; obtain ⟨nx0, hnx0, rfl⟩ := jnat hp0 hbx0 (by decide); obtain ⟨nx1, hnx1, rfl⟩ := jnat hp2 hbx1 (by decide); clear hbx0 hbx1; clear hp0 hp1 hp2 hp3; have hcs := (jband (decide_eq_true c5) (jband (decide_eq_true c11) (jband (decide_eq_true c22) (jband (decide_eq_true c34) (jband (decide_eq_true c45) (decide_eq_true c53)))))); clear c5 c11 c22 c34 c45 c53; apply of_decide_eq_true; revert hcs; revert nx1; revert nx0; decide +kernel)⟩, rfl⟩)
          · refine J_iconst (v := 1) dX7_axis_48 (by decide) ?_
            refine J_goto (tgt := 53) dX7_axis_49 (by decide) ?_
            refine J_icmp_ne (tgt := 60) dX7_axis_53 (by decide) (fun c53 => ?_) (fun c53 => ?_)
            · refine J_iload dX7_axis_60 rfl ?_
              exact J_ret (r := some (.int _)) dX7_axis_62 ⟨rfl, _, rfl, rfl⟩ (⟨⟨_, rfl, (j_rng _).1, (j_rng _).2, (by have hbx0 : x0.toInt < 6 := hp1; have hbx1 : x1.toInt < 3 := hp3; obtain ⟨nx0, hnx0, rfl⟩ := jnat hp0 hbx0 (by decide); obtain ⟨nx1, hnx1, rfl⟩ := jnat hp2 hbx1 (by decide); clear hbx0 hbx1; clear hp0 hp1 hp2 hp3; have hcs := (jband (decide_eq_true c5) (jband (decide_eq_true c11) (jband (decide_eq_true c22) (jband (decide_eq_true c34) (jband (decide_eq_true c45) (decide_eq_true c53)))))); clear c5 c11 c22 c34 c45 c53; apply of_decide_eq_true; revert hcs; revert nx1; revert nx0; decide +kernel)⟩, rfl⟩)
            · refine J_iload_n dX7_axis_56 rfl ?_
              refine J_goto (tgt := 62) dX7_axis_57 (by decide) ?_
              exact J_ret (r := some (.int _)) dX7_axis_62 ⟨rfl, _, rfl, rfl⟩ (⟨⟨_, rfl, (j_rng _).1, (j_rng _).2, (by have hbx0 : x0.toInt < 6 := hp1; have hbx1 : x1.toInt < 3 := hp3; obtain ⟨nx0, hnx0, rfl⟩ := jnat hp0 hbx0 (by decide); obtain ⟨nx1, hnx1, rfl⟩ := jnat hp2 hbx1 (by decide); clear hbx0 hbx1; clear hp0 hp1 hp2 hp3; have hcs := (jband (decide_eq_true c5) (jband (decide_eq_true c11) (jband (decide_eq_true c22) (jband (decide_eq_true c34) (jband (decide_eq_true c45) (decide_eq_true c53)))))); clear c5 c11 c22 c34 c45 c53; apply of_decide_eq_true; revert hcs; revert nx1; revert nx0; decide +kernel)⟩, rfl⟩)
      · refine J_iconst (v := 1) dX7_axis_25 (by decide) ?_
        refine J_goto (tgt := 30) dX7_axis_26 (by decide) ?_
        refine J_istore dX7_axis_30 rfl (by decide) ?_
        refine J_iload_n dX7_axis_32 rfl ?_
        refine J_iconst (v := 1) dX7_axis_33 (by decide) ?_
        refine J_icmp_ne (tgt := 41) dX7_axis_34 (by decide) (fun c34 => ?_) (fun c34 => ?_)
        · refine J_iconst (v := 0) dX7_axis_41 (by decide) ?_
          refine J_iload_n dX7_axis_42 rfl ?_
          refine J_iconst (v := 2) dX7_axis_43 (by decide) ?_
          refine J_irem dX7_axis_44 (by decide) ?_
          refine J_if_ne (tgt := 52) dX7_axis_45 (by decide) (fun c45 => ?_) (fun c45 => ?_)
          · refine J_iconst (v := 0) dX7_axis_52 (by decide) ?_
            refine J_icmp_ne (tgt := 60) dX7_axis_53 (by decide) (fun c53 => ?_) (fun c53 => ?_)
            · refine J_iload dX7_axis_60 rfl ?_
              exact J_ret (r := some (.int _)) dX7_axis_62 ⟨rfl, _, rfl, rfl⟩ (⟨⟨_, rfl, (j_rng _).1, (j_rng _).2, (by have hbx0 : x0.toInt < 6 := hp1; have hbx1 : x1.toInt < 3 := hp3; obtain ⟨nx0, hnx0, rfl⟩ := jnat hp0 hbx0 (by decide); obtain ⟨nx1, hnx1, rfl⟩ := jnat hp2 hbx1 (by decide); clear hbx0 hbx1; clear hp0 hp1 hp2 hp3; have hcs := (jband (decide_eq_true c5) (jband (decide_eq_true c11) (jband (decide_eq_true c22) (jband (decide_eq_true c34) (jband (decide_eq_true c45) (decide_eq_true c53)))))); clear c5 c11 c22 c34 c45 c53; apply of_decide_eq_true; revert hcs; revert nx1; revert nx0; decide +kernel)⟩, rfl⟩)
            · refine J_iload_n dX7_axis_56 rfl ?_
              refine J_goto (tgt := 62) dX7_axis_57 (by decide) ?_
              exact J_ret (r := some (.int _)) dX7_axis_62 ⟨rfl, _, rfl, rfl⟩ (⟨⟨_, rfl, (j_rng _).1, (j_rng _).2, (by have hbx0 : x0.toInt < 6 := hp1; have hbx1 : x1.toInt < 3 := hp3; obtain ⟨nx0, hnx0, rfl⟩ := jnat hp0 hbx0 (by decide); obtain ⟨nx1, hnx1, rfl⟩ := jnat hp2 hbx1 (by decide); clear hbx0 hbx1; clear hp0 hp1 hp2 hp3; have hcs := (jband (decide_eq_true c5) (jband (decide_eq_true c11) (jband (decide_eq_true c22) (jband (decide_eq_true c34) (jband (decide_eq_true c45) (decide_eq_true c53)))))); clear c5 c11 c22 c34 c45 c53; apply of_decide_eq_true; revert hcs; revert nx1; revert nx0; decide +kernel)⟩, rfl⟩)
          · refine J_iconst (v := 1) dX7_axis_48 (by decide) ?_
            refine J_goto (tgt := 53) dX7_axis_49 (by decide) ?_
            refine J_icmp_ne (tgt := 60) dX7_axis_53 (by decide) (fun c53 => ?_) (fun c53 => ?_)
            · refine J_iload dX7_axis_60 rfl ?_
              exact J_ret (r := some (.int _)) dX7_axis_62 ⟨rfl, _, rfl, rfl⟩ (⟨⟨_, rfl, (j_rng _).1, (j_rng _).2, (by have hbx0 : x0.toInt < 6 := hp1; have hbx1 : x1.toInt < 3 := hp3; obtain ⟨nx0, hnx0, rfl⟩ := jnat hp0 hbx0 (by decide); obtain ⟨nx1, hnx1, rfl⟩ := jnat hp2 hbx1 (by decide); clear hbx0 hbx1; clear hp0 hp1 hp2 hp3; have hcs := (jband (decide_eq_true c5) (jband (decide_eq_true c11) (jband (decide_eq_true c22) (jband (decide_eq_true c34) (jband (decide_eq_true c45) (decide_eq_true c53)))))); clear c5 c11 c22 c34 c45 c53; apply of_decide_eq_true; revert hcs; revert nx1; revert nx0; decide +kernel)⟩, rfl⟩)
            · refine J_iload_n dX7_axis_56 rfl ?_
              refine J_goto (tgt := 62) dX7_axis_57 (by decide) ?_
              exact J_ret (r := some (.int _)) dX7_axis_62 ⟨rfl, _, rfl, rfl⟩ (⟨⟨_, rfl, (j_rng _).1, (j_rng _).2, (by have hbx0 : x0.toInt < 6 := hp1; have hbx1 : x1.toInt < 3 := hp3; obtain ⟨nx0, hnx0, rfl⟩ := jnat hp0 hbx0 (by decide); obtain ⟨nx1, hnx1, rfl⟩ := jnat hp2 hbx1 (by decide); clear hbx0 hbx1; clear hp0 hp1 hp2 hp3; have hcs := (jband (decide_eq_true c5) (jband (decide_eq_true c11) (jband (decide_eq_true c22) (jband (decide_eq_true c34) (jband (decide_eq_true c45) (decide_eq_true c53)))))); clear c5 c11 c22 c34 c45 c53; apply of_decide_eq_true; revert hcs; revert nx1; revert nx0; decide +kernel)⟩, rfl⟩)
        · refine J_iconst (v := 1) dX7_axis_37 (by decide) ?_
          refine J_goto (tgt := 42) dX7_axis_38 (by decide) ?_
          refine J_iload_n dX7_axis_42 rfl ?_
          refine J_iconst (v := 2) dX7_axis_43 (by decide) ?_
          refine J_irem dX7_axis_44 (by decide) ?_
          refine J_if_ne (tgt := 52) dX7_axis_45 (by decide) (fun c45 => ?_) (fun c45 => ?_)
          · refine J_iconst (v := 0) dX7_axis_52 (by decide) ?_
            refine J_icmp_ne (tgt := 60) dX7_axis_53 (by decide) (fun c53 => ?_) (fun c53 => ?_)
            · refine J_iload dX7_axis_60 rfl ?_
              exact J_ret (r := some (.int _)) dX7_axis_62 ⟨rfl, _, rfl, rfl⟩ (⟨⟨_, rfl, (j_rng _).1, (j_rng _).2, (by have hbx0 : x0.toInt < 6 := hp1; have hbx1 : x1.toInt < 3 := hp3; obtain ⟨nx0, hnx0, rfl⟩ := jnat hp0 hbx0 (by decide); obtain ⟨nx1, hnx1, rfl⟩ := jnat hp2 hbx1 (by decide); clear hbx0 hbx1; clear hp0 hp1 hp2 hp3; have hcs := (jband (decide_eq_true c5) (jband (decide_eq_true c11) (jband (decide_eq_true c22) (jband (decide_eq_true c34) (jband (decide_eq_true c45) (decide_eq_true c53)))))); clear c5 c11 c22 c34 c45 c53; apply of_decide_eq_true; revert hcs; revert nx1; revert nx0; decide +kernel)⟩, rfl⟩)
            · refine J_iload_n dX7_axis_56 rfl ?_
              refine J_goto (tgt := 62) dX7_axis_57 (by decide) ?_
              exact J_ret (r := some (.int _)) dX7_axis_62 ⟨rfl, _, rfl, rfl⟩ (⟨⟨_, rfl, (j_rng _).1, (j_rng _).2, (by have hbx0 : x0.toInt < 6 := hp1; have hbx1 : x1.toInt < 3 := hp3; obtain ⟨nx0, hnx0, rfl⟩ := jnat hp0 hbx0 (by decide); obtain ⟨nx1, hnx1, rfl⟩ := jnat hp2 hbx1 (by decide); clear hbx0 hbx1; clear hp0 hp1 hp2 hp3; have hcs := (jband (decide_eq_true c5) (jband (decide_eq_true c11) (jband (decide_eq_true c22) (jband (decide_eq_true c34) (jband (decide_eq_true c45) (decide_eq_true c53)))))); clear c5 c11 c22 c34 c45 c53; apply of_decide_eq_true; revert hcs; revert nx1; revert nx0; decide +kernel)⟩, rfl⟩)
          · refine J_iconst (v := 1) dX7_axis_48 (by decide) ?_
            refine J_goto (tgt := 53) dX7_axis_49 (by decide) ?_
            refine J_icmp_ne (tgt := 60) dX7_axis_53 (by decide) (fun c53 => ?_) (fun c53 => ?_)
            · refine J_iload dX7_axis_60 rfl ?_
              exact J_ret (r := some (.int _)) dX7_axis_62 ⟨rfl, _, rfl, rfl⟩ (⟨⟨_, rfl, (j_rng _).1, (j_rng _).2, (by have hbx0 : x0.toInt < 6 := hp1; have hbx1 : x1.toInt < 3 := hp3; obtain ⟨nx0, hnx0, rfl⟩ := jnat hp0 hbx0 (by decide); obtain ⟨nx1, hnx1, rfl⟩ := jnat hp2 hbx1 (by decide); clear hbx0 hbx1; clear hp0 hp1 hp2 hp3; have hcs := (jband (decide_eq_true c5) (jband (decide_eq_true c11) (jband (decide_eq_true c22) (jband (decide_eq_true c34) (jband (decide_eq_true c45) (decide_eq_true c53)))))); clear c5 c11 c22 c34 c45 c53; apply of_decide_eq_true; revert hcs; revert nx1; revert nx0; decide +kernel)⟩, rfl⟩)
            · refine J_iload_n dX7_axis_56 rfl ?_
              refine J_goto (tgt := 62) dX7_axis_57 (by decide) ?_
              exact J_ret (r := some (.int _)) dX7_axis_62 ⟨rfl, _, rfl, rfl⟩ (⟨⟨_, rfl, (j_rng _).1, (j_rng _).2, (by have hbx0 : x0.toInt < 6 := hp1; have hbx1 : x1.toInt < 3 := hp3; obtain ⟨nx0, hnx0, rfl⟩ := jnat hp0 hbx0 (by decide); obtain ⟨nx1, hnx1, rfl⟩ := jnat hp2 hbx1 (by decide); clear hbx0 hbx1; clear hp0 hp1 hp2 hp3; have hcs := (jband (decide_eq_true c5) (jband (decide_eq_true c11) (jband (decide_eq_true c22) (jband (decide_eq_true c34) (jband (decide_eq_true c45) (decide_eq_true c53)))))); clear c5 c11 c22 c34 c45 c53; apply of_decide_eq_true; revert hcs; revert nx1; revert nx0; decide +kernel)⟩, rfl⟩)
  · refine J_iload_n dX7_axis_8 rfl ?_
    exact J_ret (r := some (.int _)) dX7_axis_9 ⟨rfl, _, rfl, rfl⟩ (⟨⟨_, rfl, (j_rng _).1, (j_rng _).2, (by have hbx0 : x0.toInt < 6 := hp1; have hbx1 : x1.toInt < 3 := hp3; obtain ⟨nx0, hnx0, rfl⟩ := jnat hp0 hbx0 (by decide); obtain ⟨nx1, hnx1, rfl⟩ := jnat hp2 hbx1 (by decide); clear hbx0 hbx1; clear hp0 hp1 hp2 hp3; have hcs := (decide_eq_true c5); clear c5; apply of_decide_eq_true; revert hcs; revert nx1; revert nx0; decide +kernel)⟩, rfl⟩)
set_option maxRecDepth 100000 in
set_option maxHeartbeats 4000000 in
theorem w_X7_turned_z {tS : jTS} (d : Nat) (V0 : jH) (x0 : Int32) (x1 : Int32) (x2 : Int32)  (hd : 1 ≤ d)    (hp0 : 0 ≤ x0.toInt) (hp1 : x0.toInt ≤ 3) (hp2 : 0 ≤ x1.toInt) (hp3 : x1.toInt < jtur x0.toInt) (hp4 : 0 ≤ x2.toInt) (hp5 : x2.toInt < jdir x0.toInt) : jTot tS mX7_turned d [.int x0, .int x1, .int x2] V0 0 0 (fun r V => (fun r _ => ∃ y : Int32, r = some (.int y) ∧ ((-2147483648) ≤ y.toInt) ∧ (y.toInt ≤ 2147483647) ∧ (y.toInt = jtn x0.toInt x1.toInt x2.toInt)) r V ∧ V = V0) := by
  refine jTot.of_J [some (.int x0), some (.int x1), some (.int x2), none, none] moX7_turned (Nat.le_of_ble_eq_true rfl) rfl ?_
  refine J_iload_n dX7_turned_0 rfl ?_
  refine J_if_ne (tgt := 23) dX7_turned_1 (by decide) (fun c1 => ?_) (fun c1 => ?_)
  · refine J_iload_n dX7_turned_23 rfl ?_
    refine J_iconst (v := 1) dX7_turned_24 (by decide) ?_
    refine J_icmp_ne (tgt := 50) dX7_turned_25 (by decide) (fun c25 => ?_) (fun c25 => ?_)
    · refine J_iload_n dX7_turned_50 rfl ?_
      refine J_iconst (v := 3) dX7_turned_51 (by decide) ?_
      refine J_irem dX7_turned_52 (by decide) ?_
      refine J_istore_n dX7_turned_53 rfl (by decide) ?_
      refine J_iload_n dX7_turned_54 rfl ?_
      refine J_iconst (v := 2) dX7_turned_55 (by decide) ?_
      refine J_icmp_le (tgt := 63) dX7_turned_56 (by decide) (fun c56 => ?_) (fun c56 => ?_)
      · refine J_iconst (v := 0) dX7_turned_63 (by decide) ?_
        refine J_iload_n dX7_turned_64 rfl ?_
        refine J_bipush (v := 8) dX7_turned_65 (by decide) ?_
        refine J_irem dX7_turned_67 (by decide) ?_
        refine J_iload_n dX7_turned_68 rfl ?_
        refine J_ishr dX7_turned_69 ?_
        refine J_iconst (v := 1) dX7_turned_70 (by decide) ?_
        refine J_iand dX7_turned_71 ?_
        refine J_iconst (v := 1) dX7_turned_72 (by decide) ?_
        refine J_icmp_ne (tgt := 80) dX7_turned_73 (by decide) (fun c73 => ?_) (fun c73 => ?_)
        · refine J_iconst (v := 0) dX7_turned_80 (by decide) ?_
          refine J_icmp_eq (tgt := 88) dX7_turned_81 (by decide) (fun c81 => ?_) (fun c81 => ?_)
          · refine J_iconst (v := 0) dX7_turned_88 (by decide) ?_
            refine J_istore dX7_turned_89 rfl (by decide) ?_
            refine J_iload_n dX7_turned_91 rfl ?_
            refine J_bipush (v := 8) dX7_turned_92 (by decide) ?_
            refine J_idiv dX7_turned_94 (by decide) ?_
            refine J_iload_n dX7_turned_95 rfl ?_
            refine J_callS2 moX7_axis jw_ml_X7_98 jw_st_X7_axis dX7_turned_96 (w_X7_axis_z (d - 1) _ _ _ (by omega) (jdiv8 hp2 (by have q := jtur_cases x0.toInt; omega)).1 (jdiv8 hp2 (by have q := jtur_cases x0.toInt; omega)).2 (jmod3 hp4 (by have q := jdir_cases x0.toInt; omega)).1 (jmod3 hp4 (by have q := jdir_cases x0.toInt; omega)).2) (by omega) (Nat.zero_le _) (Nat.zero_le _) (Nat.le_of_ble_eq_true rfl) (fun r96 V96 h96 => ?_)
            obtain ⟨⟨_, rfl, -, -, rfl⟩, hE96⟩ := h96
            have hE96 := hE96.symm
            subst hE96
            refine J_iload dX7_turned_99 rfl ?_
            refine J_if_eq (tgt := 108) dX7_turned_101 (by decide) (fun c101 => ?_) (fun c101 => ?_)
            · refine J_iconst (v := 0) dX7_turned_108 (by decide) ?_
              refine J_iadd dX7_turned_109 ?_
              exact J_ret (r := some (.int _)) dX7_turned_110 ⟨rfl, _, rfl, rfl⟩ (⟨⟨_, rfl, (j_rng _).1, (j_rng _).2, (by have hbx0 : x0.toInt < 4 := (show x0.toInt < 4 by omega); have hbx1 : x1.toInt < 48 := (by have q := jtur_cases x0.toInt; omega); have hbx2 : x2.toInt < 6 := (by have q := jdir_cases x0.toInt; omega); obtain ⟨nx0, hnx0, rfl⟩ := jnat hp0 hbx0 (by decide); obtain ⟨nx1, hnx1, rfl⟩ := jnat hp2 hbx1 (by decide); obtain ⟨nx2, hnx2, rfl⟩ := jnat hp4 hbx2 (by decide); clear hbx0 hbx1 hbx2; clear hp0 hp1 hp2 hp4; have hcs := (jband (decide_eq_true hp3) (jband (decide_eq_true hp5) (jband (decide_eq_true c1) (jband (decide_eq_true c25) (jband (decide_eq_true c56) (jband (decide_eq_true c73) (jband (decide_eq_true c81) (decide_eq_true c101)))))))); clear hp3 hp5 c1 c25 c56 c73 c81 c101; apply of_decide_eq_true; revert hcs; revert nx2; revert nx1; revert nx0; decide +kernel)⟩, rfl⟩)
            · refine J_iconst (v := 3) dX7_turned_104 (by decide) ?_
              refine J_goto (tgt := 109) dX7_turned_105 (by decide) ?_
              refine J_iadd dX7_turned_109 ?_
              exact J_ret (r := some (.int _)) dX7_turned_110 ⟨rfl, _, rfl, rfl⟩ (⟨⟨_, rfl, (j_rng _).1, (j_rng _).2, (by have hbx0 : x0.toInt < 4 := (show x0.toInt < 4 by omega); have hbx1 : x1.toInt < 48 := (by have q := jtur_cases x0.toInt; omega); have hbx2 : x2.toInt < 6 := (by have q := jdir_cases x0.toInt; omega); obtain ⟨nx0, hnx0, rfl⟩ := jnat hp0 hbx0 (by decide); obtain ⟨nx1, hnx1, rfl⟩ := jnat hp2 hbx1 (by decide); obtain ⟨nx2, hnx2, rfl⟩ := jnat hp4 hbx2 (by decide); clear hbx0 hbx1 hbx2; clear hp0 hp1 hp2 hp4; have hcs := (jband (decide_eq_true hp3) (jband (decide_eq_true hp5) (jband (decide_eq_true c1) (jband (decide_eq_true c25) (jband (decide_eq_true c56) (jband (decide_eq_true c73) (jband (decide_eq_true c81) (decide_eq_true c101)))))))); clear hp3 hp5 c1 c25 c56 c73 c81 c101; apply of_decide_eq_true; revert hcs; revert nx2; revert nx1; revert nx0; decide +kernel)⟩, rfl⟩)
          · refine J_iconst (v := 1) dX7_turned_84 (by decide) ?_
            refine J_goto (tgt := 89) dX7_turned_85 (by decide) ?_
            refine J_istore dX7_turned_89 rfl (by decide) ?_
            refine J_iload_n dX7_turned_91 rfl ?_
            refine J_bipush (v := 8) dX7_turned_92 (by decide) ?_
            refine J_idiv dX7_turned_94 (by decide) ?_
            refine J_iload_n dX7_turned_95 rfl ?_
            refine J_callS2 moX7_axis jw_ml_X7_98 jw_st_X7_axis dX7_turned_96 (w_X7_axis_z (d - 1) _ _ _ (by omega) (jdiv8 hp2 (by have q := jtur_cases x0.toInt; omega)).1 (jdiv8 hp2 (by have q := jtur_cases x0.toInt; omega)).2 (jmod3 hp4 (by have q := jdir_cases x0.toInt; omega)).1 (jmod3 hp4 (by have q := jdir_cases x0.toInt; omega)).2) (by omega) (Nat.zero_le _) (Nat.zero_le _) (Nat.le_of_ble_eq_true rfl) (fun r96 V96 h96 => ?_)
            obtain ⟨⟨_, rfl, -, -, rfl⟩, hE96⟩ := h96
            have hE96 := hE96.symm
            subst hE96
            refine J_iload dX7_turned_99 rfl ?_
            refine J_if_eq (tgt := 108) dX7_turned_101 (by decide) (fun c101 => ?_) (fun c101 => ?_)
            · refine J_iconst (v := 0) dX7_turned_108 (by decide) ?_
              refine J_iadd dX7_turned_109 ?_
              exact J_ret (r := some (.int _)) dX7_turned_110 ⟨rfl, _, rfl, rfl⟩ (⟨⟨_, rfl, (j_rng _).1, (j_rng _).2, (by have hbx0 : x0.toInt < 4 := (show x0.toInt < 4 by omega); have hbx1 : x1.toInt < 48 := (by have q := jtur_cases x0.toInt; omega); have hbx2 : x2.toInt < 6 := (by have q := jdir_cases x0.toInt; omega); obtain ⟨nx0, hnx0, rfl⟩ := jnat hp0 hbx0 (by decide); obtain ⟨nx1, hnx1, rfl⟩ := jnat hp2 hbx1 (by decide); obtain ⟨nx2, hnx2, rfl⟩ := jnat hp4 hbx2 (by decide); clear hbx0 hbx1 hbx2; clear hp0 hp1 hp2 hp4; have hcs := (jband (decide_eq_true hp3) (jband (decide_eq_true hp5) (jband (decide_eq_true c1) (jband (decide_eq_true c25) (jband (decide_eq_true c56) (jband (decide_eq_true c73) (jband (decide_eq_true c81) (decide_eq_true c101)))))))); clear hp3 hp5 c1 c25 c56 c73 c81 c101; apply of_decide_eq_true; revert hcs; revert nx2; revert nx1; revert nx0; decide +kernel)⟩, rfl⟩)
            · refine J_iconst (v := 3) dX7_turned_104 (by decide) ?_
              refine J_goto (tgt := 109) dX7_turned_105 (by decide) ?_
              refine J_iadd dX7_turned_109 ?_
              exact J_ret (r := some (.int _)) dX7_turned_110 ⟨rfl, _, rfl, rfl⟩ (⟨⟨_, rfl, (j_rng _).1, (j_rng _).2, (by have hbx0 : x0.toInt < 4 := (show x0.toInt < 4 by omega); have hbx1 : x1.toInt < 48 := (by have q := jtur_cases x0.toInt; omega); have hbx2 : x2.toInt < 6 := (by have q := jdir_cases x0.toInt; omega); obtain ⟨nx0, hnx0, rfl⟩ := jnat hp0 hbx0 (by decide); obtain ⟨nx1, hnx1, rfl⟩ := jnat hp2 hbx1 (by decide); obtain ⟨nx2, hnx2, rfl⟩ := jnat hp4 hbx2 (by decide); clear hbx0 hbx1 hbx2; clear hp0 hp1 hp2 hp4; have hcs := (jband (decide_eq_true hp3) (jband (decide_eq_true hp5) (jband (decide_eq_true c1) (jband (decide_eq_true c25) (jband (decide_eq_true c56) (jband (decide_eq_true c73) (jband (decide_eq_true c81) (decide_eq_true c101)))))))); clear hp3 hp5 c1 c25 c56 c73 c81 c101; apply of_decide_eq_true; revert hcs; revert nx2; revert nx1; revert nx0; decide +kernel)⟩, rfl⟩)
        · refine J_iconst (v := 1) dX7_turned_76 (by decide) ?_
          refine J_goto (tgt := 81) dX7_turned_77 (by decide) ?_
          refine J_icmp_eq (tgt := 88) dX7_turned_81 (by decide) (fun c81 => ?_) (fun c81 => ?_)
          · refine J_iconst (v := 0) dX7_turned_88 (by decide) ?_
            refine J_istore dX7_turned_89 rfl (by decide) ?_
            refine J_iload_n dX7_turned_91 rfl ?_
            refine J_bipush (v := 8) dX7_turned_92 (by decide) ?_
            refine J_idiv dX7_turned_94 (by decide) ?_
            refine J_iload_n dX7_turned_95 rfl ?_
            refine J_callS2 moX7_axis jw_ml_X7_98 jw_st_X7_axis dX7_turned_96 (w_X7_axis_z (d - 1) _ _ _ (by omega) (jdiv8 hp2 (by have q := jtur_cases x0.toInt; omega)).1 (jdiv8 hp2 (by have q := jtur_cases x0.toInt; omega)).2 (jmod3 hp4 (by have q := jdir_cases x0.toInt; omega)).1 (jmod3 hp4 (by have q := jdir_cases x0.toInt; omega)).2) (by omega) (Nat.zero_le _) (Nat.zero_le _) (Nat.le_of_ble_eq_true rfl) (fun r96 V96 h96 => ?_)
            obtain ⟨⟨_, rfl, -, -, rfl⟩, hE96⟩ := h96
            have hE96 := hE96.symm
            subst hE96
            refine J_iload dX7_turned_99 rfl ?_
            refine J_if_eq (tgt := 108) dX7_turned_101 (by decide) (fun c101 => ?_) (fun c101 => ?_)
            · refine J_iconst (v := 0) dX7_turned_108 (by decide) ?_
              refine J_iadd dX7_turned_109 ?_
              exact J_ret (r := some (.int _)) dX7_turned_110 ⟨rfl, _, rfl, rfl⟩ (⟨⟨_, rfl, (j_rng _).1, (j_rng _).2, (by have hbx0 : x0.toInt < 4 := (show x0.toInt < 4 by omega); have hbx1 : x1.toInt < 48 := (by have q := jtur_cases x0.toInt; omega); have hbx2 : x2.toInt < 6 := (by have q := jdir_cases x0.toInt; omega); obtain ⟨nx0, hnx0, rfl⟩ := jnat hp0 hbx0 (by decide); obtain ⟨nx1, hnx1, rfl⟩ := jnat hp2 hbx1 (by decide); obtain ⟨nx2, hnx2, rfl⟩ := jnat hp4 hbx2 (by decide); clear hbx0 hbx1 hbx2; clear hp0 hp1 hp2 hp4; have hcs := (jband (decide_eq_true hp3) (jband (decide_eq_true hp5) (jband (decide_eq_true c1) (jband (decide_eq_true c25) (jband (decide_eq_true c56) (jband (decide_eq_true c73) (jband (decide_eq_true c81) (decide_eq_true c101)))))))); clear hp3 hp5 c1 c25 c56 c73 c81 c101; apply of_decide_eq_true; revert hcs; revert nx2; revert nx1; revert nx0; decide +kernel)⟩, rfl⟩)
            · refine J_iconst (v := 3) dX7_turned_104 (by decide) ?_
              refine J_goto (tgt := 109) dX7_turned_105 (by decide) ?_
              refine J_iadd dX7_turned_109 ?_
              exact J_ret (r := some (.int _)) dX7_turned_110 ⟨rfl, _, rfl, rfl⟩ (⟨⟨_, rfl, (j_rng _).1, (j_rng _).2, (by have hbx0 : x0.toInt < 4 := (show x0.toInt < 4 by omega); have hbx1 : x1.toInt < 48 := (by have q := jtur_cases x0.toInt; omega); have hbx2 : x2.toInt < 6 := (by have q := jdir_cases x0.toInt; omega); obtain ⟨nx0, hnx0, rfl⟩ := jnat hp0 hbx0 (by decide); obtain ⟨nx1, hnx1, rfl⟩ := jnat hp2 hbx1 (by decide); obtain ⟨nx2, hnx2, rfl⟩ := jnat hp4 hbx2 (by decide); clear hbx0 hbx1 hbx2; clear hp0 hp1 hp2 hp4; have hcs := (jband (decide_eq_true hp3) (jband (decide_eq_true hp5) (jband (decide_eq_true c1) (jband (decide_eq_true c25) (jband (decide_eq_true c56) (jband (decide_eq_true c73) (jband (decide_eq_true c81) (decide_eq_true c101)))))))); clear hp3 hp5 c1 c25 c56 c73 c81 c101; apply of_decide_eq_true; revert hcs; revert nx2; revert nx1; revert nx0; decide +kernel)⟩, rfl⟩)
          · refine J_iconst (v := 1) dX7_turned_84 (by decide) ?_
            refine J_goto (tgt := 89) dX7_turned_85 (by decide) ?_
            refine J_istore dX7_turned_89 rfl (by decide) ?_
            refine J_iload_n dX7_turned_91 rfl ?_
            refine J_bipush (v := 8) dX7_turned_92 (by decide) ?_
            refine J_idiv dX7_turned_94 (by decide) ?_
            refine J_iload_n dX7_turned_95 rfl ?_
            refine J_callS2 moX7_axis jw_ml_X7_98 jw_st_X7_axis dX7_turned_96 (w_X7_axis_z (d - 1) _ _ _ (by omega) (jdiv8 hp2 (by have q := jtur_cases x0.toInt; omega)).1 (jdiv8 hp2 (by have q := jtur_cases x0.toInt; omega)).2 (jmod3 hp4 (by have q := jdir_cases x0.toInt; omega)).1 (jmod3 hp4 (by have q := jdir_cases x0.toInt; omega)).2) (by omega) (Nat.zero_le _) (Nat.zero_le _) (Nat.le_of_ble_eq_true rfl) (fun r96 V96 h96 => ?_)
            obtain ⟨⟨_, rfl, -, -, rfl⟩, hE96⟩ := h96
            have hE96 := hE96.symm
            subst hE96
            refine J_iload dX7_turned_99 rfl ?_
            refine J_if_eq (tgt := 108) dX7_turned_101 (by decide) (fun c101 => ?_) (fun c101 => ?_)
            · refine J_iconst (v := 0) dX7_turned_108 (by decide) ?_
              refine J_iadd dX7_turned_109 ?_
              exact J_ret (r := some (.int _)) dX7_turned_110 ⟨rfl, _, rfl, rfl⟩ (⟨⟨_, rfl, (j_rng _).1, (j_rng _).2, (by have hbx0 : x0.toInt < 4 := (show x0.toInt < 4 by omega); have hbx1 : x1.toInt < 48 := (by have q := jtur_cases x0.toInt; omega); have hbx2 : x2.toInt < 6 := (by have q := jdir_cases x0.toInt; omega); obtain ⟨nx0, hnx0, rfl⟩ := jnat hp0 hbx0 (by decide); obtain ⟨nx1, hnx1, rfl⟩ := jnat hp2 hbx1 (by decide); obtain ⟨nx2, hnx2, rfl⟩ := jnat hp4 hbx2 (by decide); clear hbx0 hbx1 hbx2; clear hp0 hp1 hp2 hp4; have hcs := (jband (decide_eq_true hp3) (jband (decide_eq_true hp5) (jband (decide_eq_true c1) (jband (decide_eq_true c25) (jband (decide_eq_true c56) (jband (decide_eq_true c73) (jband (decide_eq_true c81) (decide_eq_true c101)))))))); clear hp3 hp5 c1 c25 c56 c73 c81 c101; apply of_decide_eq_true; revert hcs; revert nx2; revert nx1; revert nx0; decide +kernel)⟩, rfl⟩)
            · refine J_iconst (v := 3) dX7_turned_104 (by decide) ?_
              refine J_goto (tgt := 109) dX7_turned_105 (by decide) ?_
              refine J_iadd dX7_turned_109 ?_
              exact J_ret (r := some (.int _)) dX7_turned_110 ⟨rfl, _, rfl, rfl⟩ (⟨⟨_, rfl, (j_rng _).1, (j_rng _).2, (by have hbx0 : x0.toInt < 4 := (show x0.toInt < 4 by omega); have hbx1 : x1.toInt < 48 := (by have q := jtur_cases x0.toInt; omega); have hbx2 : x2.toInt < 6 := (by have q := jdir_cases x0.toInt; omega); obtain ⟨nx0, hnx0, rfl⟩ := jnat hp0 hbx0 (by decide); obtain ⟨nx1, hnx1, rfl⟩ := jnat hp2 hbx1 (by decide); obtain ⟨nx2, hnx2, rfl⟩ := jnat hp4 hbx2 (by decide); clear hbx0 hbx1 hbx2; clear hp0 hp1 hp2 hp4; have hcs := (jband (decide_eq_true hp3) (jband (decide_eq_true hp5) (jband (decide_eq_true c1) (jband (decide_eq_true c25) (jband (decide_eq_true c56) (jband (decide_eq_true c73) (jband (decide_eq_true c81) (decide_eq_true c101)))))))); clear hp3 hp5 c1 c25 c56 c73 c81 c101; apply of_decide_eq_true; revert hcs; revert nx2; revert nx1; revert nx0; decide +kernel)⟩, rfl⟩)
      · refine J_iconst (v := 1) dX7_turned_59 (by decide) ?_
        refine J_goto (tgt := 64) dX7_turned_60 (by decide) ?_
        refine J_iload_n dX7_turned_64 rfl ?_
        refine J_bipush (v := 8) dX7_turned_65 (by decide) ?_
        refine J_irem dX7_turned_67 (by decide) ?_
        refine J_iload_n dX7_turned_68 rfl ?_
        refine J_ishr dX7_turned_69 ?_
        refine J_iconst (v := 1) dX7_turned_70 (by decide) ?_
        refine J_iand dX7_turned_71 ?_
        refine J_iconst (v := 1) dX7_turned_72 (by decide) ?_
        refine J_icmp_ne (tgt := 80) dX7_turned_73 (by decide) (fun c73 => ?_) (fun c73 => ?_)
        · refine J_iconst (v := 0) dX7_turned_80 (by decide) ?_
          refine J_icmp_eq (tgt := 88) dX7_turned_81 (by decide) (fun c81 => ?_) (fun c81 => ?_)
          · refine J_iconst (v := 0) dX7_turned_88 (by decide) ?_
            refine J_istore dX7_turned_89 rfl (by decide) ?_
            refine J_iload_n dX7_turned_91 rfl ?_
            refine J_bipush (v := 8) dX7_turned_92 (by decide) ?_
            refine J_idiv dX7_turned_94 (by decide) ?_
            refine J_iload_n dX7_turned_95 rfl ?_
            refine J_callS2 moX7_axis jw_ml_X7_98 jw_st_X7_axis dX7_turned_96 (w_X7_axis_z (d - 1) _ _ _ (by omega) (jdiv8 hp2 (by have q := jtur_cases x0.toInt; omega)).1 (jdiv8 hp2 (by have q := jtur_cases x0.toInt; omega)).2 (jmod3 hp4 (by have q := jdir_cases x0.toInt; omega)).1 (jmod3 hp4 (by have q := jdir_cases x0.toInt; omega)).2) (by omega) (Nat.zero_le _) (Nat.zero_le _) (Nat.le_of_ble_eq_true rfl) (fun r96 V96 h96 => ?_)
            obtain ⟨⟨_, rfl, -, -, rfl⟩, hE96⟩ := h96
            have hE96 := hE96.symm
            subst hE96
            refine J_iload dX7_turned_99 rfl ?_
            refine J_if_eq (tgt := 108) dX7_turned_101 (by decide) (fun c101 => ?_) (fun c101 => ?_)
            · refine J_iconst (v := 0) dX7_turned_108 (by decide) ?_
              refine J_iadd dX7_turned_109 ?_
              exact J_ret (r := some (.int _)) dX7_turned_110 ⟨rfl, _, rfl, rfl⟩ (⟨⟨_, rfl, (j_rng _).1, (j_rng _).2, (by have hbx0 : x0.toInt < 4 := (show x0.toInt < 4 by omega); have hbx1 : x1.toInt < 48 := (by have q := jtur_cases x0.toInt; omega); have hbx2 : x2.toInt < 6 := (by have q := jdir_cases x0.toInt; omega); obtain ⟨nx0, hnx0, rfl⟩ := jnat hp0 hbx0 (by decide); obtain ⟨nx1, hnx1, rfl⟩ := jnat hp2 hbx1 (by decide); obtain ⟨nx2, hnx2, rfl⟩ := jnat hp4 hbx2 (by decide); clear hbx0 hbx1 hbx2; clear hp0 hp1 hp2 hp4; have hcs := (jband (decide_eq_true hp3) (jband (decide_eq_true hp5) (jband (decide_eq_true c1) (jband (decide_eq_true c25) (jband (decide_eq_true c56) (jband (decide_eq_true c73) (jband (decide_eq_true c81) (decide_eq_true c101)))))))); clear hp3 hp5 c1 c25 c56 c73 c81 c101; apply of_decide_eq_true; revert hcs; revert nx2; revert nx1; revert nx0; decide +kernel)⟩, rfl⟩)
            · refine J_iconst (v := 3) dX7_turned_104 (by decide) ?_
              refine J_goto (tgt := 109) dX7_turned_105 (by decide) ?_
              refine J_iadd dX7_turned_109 ?_
              exact J_ret (r := some (.int _)) dX7_turned_110 ⟨rfl, _, rfl, rfl⟩ (⟨⟨_, rfl, (j_rng _).1, (j_rng _).2, (by have hbx0 : x0.toInt < 4 := (show x0.toInt < 4 by omega); have hbx1 : x1.toInt < 48 := (by have q := jtur_cases x0.toInt; omega); have hbx2 : x2.toInt < 6 := (by have q := jdir_cases x0.toInt; omega); obtain ⟨nx0, hnx0, rfl⟩ := jnat hp0 hbx0 (by decide); obtain ⟨nx1, hnx1, rfl⟩ := jnat hp2 hbx1 (by decide); obtain ⟨nx2, hnx2, rfl⟩ := jnat hp4 hbx2 (by decide); clear hbx0 hbx1 hbx2; clear hp0 hp1 hp2 hp4; have hcs := (jband (decide_eq_true hp3) (jband (decide_eq_true hp5) (jband (decide_eq_true c1) (jband (decide_eq_true c25) (jband (decide_eq_true c56) (jband (decide_eq_true c73) (jband (decide_eq_true c81) (decide_eq_true c101)))))))); clear hp3 hp5 c1 c25 c56 c73 c81 c101; apply of_decide_eq_true; revert hcs; revert nx2; revert nx1; revert nx0; decide +kernel)⟩, rfl⟩)
          · refine J_iconst (v := 1) dX7_turned_84 (by decide) ?_
            refine J_goto (tgt := 89) dX7_turned_85 (by decide) ?_
            refine J_istore dX7_turned_89 rfl (by decide) ?_
            refine J_iload_n dX7_turned_91 rfl ?_
            refine J_bipush (v := 8) dX7_turned_92 (by decide) ?_
            refine J_idiv dX7_turned_94 (by decide) ?_
            refine J_iload_n dX7_turned_95 rfl ?_
            refine J_callS2 moX7_axis jw_ml_X7_98 jw_st_X7_axis dX7_turned_96 (w_X7_axis_z (d - 1) _ _ _ (by omega) (jdiv8 hp2 (by have q := jtur_cases x0.toInt; omega)).1 (jdiv8 hp2 (by have q := jtur_cases x0.toInt; omega)).2 (jmod3 hp4 (by have q := jdir_cases x0.toInt; omega)).1 (jmod3 hp4 (by have q := jdir_cases x0.toInt; omega)).2) (by omega) (Nat.zero_le _) (Nat.zero_le _) (Nat.le_of_ble_eq_true rfl) (fun r96 V96 h96 => ?_)
            obtain ⟨⟨_, rfl, -, -, rfl⟩, hE96⟩ := h96
            have hE96 := hE96.symm
            subst hE96
            refine J_iload dX7_turned_99 rfl ?_
            refine J_if_eq (tgt := 108) dX7_turned_101 (by decide) (fun c101 => ?_) (fun c101 => ?_)
            · refine J_iconst (v := 0) dX7_turned_108 (by decide) ?_
              refine J_iadd dX7_turned_109 ?_
              exact J_ret (r := some (.int _)) dX7_turned_110 ⟨rfl, _, rfl, rfl⟩ (⟨⟨_, rfl, (j_rng _).1, (j_rng _).2, (by have hbx0 : x0.toInt < 4 := (show x0.toInt < 4 by omega); have hbx1 : x1.toInt < 48 := (by have q := jtur_cases x0.toInt; omega); have hbx2 : x2.toInt < 6 := (by have q := jdir_cases x0.toInt; omega); obtain ⟨nx0, hnx0, rfl⟩ := jnat hp0 hbx0 (by decide); obtain ⟨nx1, hnx1, rfl⟩ := jnat hp2 hbx1 (by decide); obtain ⟨nx2, hnx2, rfl⟩ := jnat hp4 hbx2 (by decide); clear hbx0 hbx1 hbx2; clear hp0 hp1 hp2 hp4; have hcs := (jband (decide_eq_true hp3) (jband (decide_eq_true hp5) (jband (decide_eq_true c1) (jband (decide_eq_true c25) (jband (decide_eq_true c56) (jband (decide_eq_true c73) (jband (decide_eq_true c81) (decide_eq_true c101)))))))); clear hp3 hp5 c1 c25 c56 c73 c81 c101; apply of_decide_eq_true; revert hcs; revert nx2; revert nx1; revert nx0; decide +kernel)⟩, rfl⟩)
            · refine J_iconst (v := 3) dX7_turned_104 (by decide) ?_
              refine J_goto (tgt := 109) dX7_turned_105 (by decide) ?_
              refine J_iadd dX7_turned_109 ?_
              exact J_ret (r := some (.int _)) dX7_turned_110 ⟨rfl, _, rfl, rfl⟩ (⟨⟨_, rfl, (j_rng _).1, (j_rng _).2, (by have hbx0 : x0.toInt < 4 := (show x0.toInt < 4 by omega); have hbx1 : x1.toInt < 48 := (by have q := jtur_cases x0.toInt; omega); have hbx2 : x2.toInt < 6 := (by have q := jdir_cases x0.toInt; omega); obtain ⟨nx0, hnx0, rfl⟩ := jnat hp0 hbx0 (by decide); obtain ⟨nx1, hnx1, rfl⟩ := jnat hp2 hbx1 (by decide); obtain ⟨nx2, hnx2, rfl⟩ := jnat hp4 hbx2 (by decide); clear hbx0 hbx1 hbx2; clear hp0 hp1 hp2 hp4; have hcs := (jband (decide_eq_true hp3) (jband (decide_eq_true hp5) (jband (decide_eq_true c1) (jband (decide_eq_true c25) (jband (decide_eq_true c56) (jband (decide_eq_true c73) (jband (decide_eq_true c81) (decide_eq_true c101)))))))); clear hp3 hp5 c1 c25 c56 c73 c81 c101; apply of_decide_eq_true; revert hcs; revert nx2; revert nx1; revert nx0; decide +kernel)⟩, rfl⟩)
        · refine J_iconst (v := 1) dX7_turned_76 (by decide) ?_
          refine J_goto (tgt := 81) dX7_turned_77 (by decide) ?_
          refine J_icmp_eq (tgt := 88) dX7_turned_81 (by decide) (fun c81 => ?_) (fun c81 => ?_)
          · refine J_iconst (v := 0) dX7_turned_88 (by decide) ?_
            refine J_istore dX7_turned_89 rfl (by decide) ?_
            refine J_iload_n dX7_turned_91 rfl ?_
            refine J_bipush (v := 8) dX7_turned_92 (by decide) ?_
            refine J_idiv dX7_turned_94 (by decide) ?_
            refine J_iload_n dX7_turned_95 rfl ?_
            refine J_callS2 moX7_axis jw_ml_X7_98 jw_st_X7_axis dX7_turned_96 (w_X7_axis_z (d - 1) _ _ _ (by omega) (jdiv8 hp2 (by have q := jtur_cases x0.toInt; omega)).1 (jdiv8 hp2 (by have q := jtur_cases x0.toInt; omega)).2 (jmod3 hp4 (by have q := jdir_cases x0.toInt; omega)).1 (jmod3 hp4 (by have q := jdir_cases x0.toInt; omega)).2) (by omega) (Nat.zero_le _) (Nat.zero_le _) (Nat.le_of_ble_eq_true rfl) (fun r96 V96 h96 => ?_)
            obtain ⟨⟨_, rfl, -, -, rfl⟩, hE96⟩ := h96
            have hE96 := hE96.symm
            subst hE96
            refine J_iload dX7_turned_99 rfl ?_
            refine J_if_eq (tgt := 108) dX7_turned_101 (by decide) (fun c101 => ?_) (fun c101 => ?_)
            · refine J_iconst (v := 0) dX7_turned_108 (by decide) ?_
              refine J_iadd dX7_turned_109 ?_
              exact J_ret (r := some (.int _)) dX7_turned_110 ⟨rfl, _, rfl, rfl⟩ (⟨⟨_, rfl, (j_rng _).1, (j_rng _).2, (by have hbx0 : x0.toInt < 4 := (show x0.toInt < 4 by omega); have hbx1 : x1.toInt < 48 := (by have q := jtur_cases x0.toInt; omega); have hbx2 : x2.toInt < 6 := (by have q := jdir_cases x0.toInt; omega); obtain ⟨nx0, hnx0, rfl⟩ := jnat hp0 hbx0 (by decide); obtain ⟨nx1, hnx1, rfl⟩ := jnat hp2 hbx1 (by decide); obtain ⟨nx2, hnx2, rfl⟩ := jnat hp4 hbx2 (by decide); clear hbx0 hbx1 hbx2; clear hp0 hp1 hp2 hp4; have hcs := (jband (decide_eq_true hp3) (jband (decide_eq_true hp5) (jband (decide_eq_true c1) (jband (decide_eq_true c25) (jband (decide_eq_true c56) (jband (decide_eq_true c73) (jband (decide_eq_true c81) (decide_eq_true c101)))))))); clear hp3 hp5 c1 c25 c56 c73 c81 c101; apply of_decide_eq_true; revert hcs; revert nx2; revert nx1; revert nx0; decide +kernel)⟩, rfl⟩)
            · refine J_iconst (v := 3) dX7_turned_104 (by decide) ?_
              refine J_goto (tgt := 109) dX7_turned_105 (by decide) ?_
              refine J_iadd dX7_turned_109 ?_
              exact J_ret (r := some (.int _)) dX7_turned_110 ⟨rfl, _, rfl, rfl⟩ (⟨⟨_, rfl, (j_rng _).1, (j_rng _).2, (by have hbx0 : x0.toInt < 4 := (show x0.toInt < 4 by omega); have hbx1 : x1.toInt < 48 := (by have q := jtur_cases x0.toInt; omega); have hbx2 : x2.toInt < 6 := (by have q := jdir_cases x0.toInt; omega); obtain ⟨nx0, hnx0, rfl⟩ := jnat hp0 hbx0 (by decide); obtain ⟨nx1, hnx1, rfl⟩ := jnat hp2 hbx1 (by decide); obtain ⟨nx2, hnx2, rfl⟩ := jnat hp4 hbx2 (by decide); clear hbx0 hbx1 hbx2; clear hp0 hp1 hp2 hp4; have hcs := (jband (decide_eq_true hp3) (jband (decide_eq_true hp5) (jband (decide_eq_true c1) (jband (decide_eq_true c25) (jband (decide_eq_true c56) (jband (decide_eq_true c73) (jband (decide_eq_true c81) (decide_eq_true c101)))))))); clear hp3 hp5 c1 c25 c56 c73 c81 c101; apply of_decide_eq_true; revert hcs; revert nx2; revert nx1; revert nx0; decide +kernel)⟩, rfl⟩)
          · refine J_iconst (v := 1) dX7_turned_84 (by decide) ?_
            refine J_goto (tgt := 89) dX7_turned_85 (by decide) ?_
            refine J_istore dX7_turned_89 rfl (by decide) ?_
            refine J_iload_n dX7_turned_91 rfl ?_
            refine J_bipush (v := 8) dX7_turned_92 (by decide) ?_
            refine J_idiv dX7_turned_94 (by decide) ?_
            refine J_iload_n dX7_turned_95 rfl ?_
            refine J_callS2 moX7_axis jw_ml_X7_98 jw_st_X7_axis dX7_turned_96 (w_X7_axis_z (d - 1) _ _ _ (by omega) (jdiv8 hp2 (by have q := jtur_cases x0.toInt; omega)).1 (jdiv8 hp2 (by have q := jtur_cases x0.toInt; omega)).2 (jmod3 hp4 (by have q := jdir_cases x0.toInt; omega)).1 (jmod3 hp4 (by have q := jdir_cases x0.toInt; omega)).2) (by omega) (Nat.zero_le _) (Nat.zero_le _) (Nat.le_of_ble_eq_true rfl) (fun r96 V96 h96 => ?_)
            obtain ⟨⟨_, rfl, -, -, rfl⟩, hE96⟩ := h96
            have hE96 := hE96.symm
            subst hE96
            refine J_iload dX7_turned_99 rfl ?_
            refine J_if_eq (tgt := 108) dX7_turned_101 (by decide) (fun c101 => ?_) (fun c101 => ?_)
            · refine J_iconst (v := 0) dX7_turned_108 (by decide) ?_
              refine J_iadd dX7_turned_109 ?_
              exact J_ret (r := some (.int _)) dX7_turned_110 ⟨rfl, _, rfl, rfl⟩ (⟨⟨_, rfl, (j_rng _).1, (j_rng _).2, (by have hbx0 : x0.toInt < 4 := (show x0.toInt < 4 by omega); have hbx1 : x1.toInt < 48 := (by have q := jtur_cases x0.toInt; omega); have hbx2 : x2.toInt < 6 := (by have q := jdir_cases x0.toInt; omega); obtain ⟨nx0, hnx0, rfl⟩ := jnat hp0 hbx0 (by decide); obtain ⟨nx1, hnx1, rfl⟩ := jnat hp2 hbx1 (by decide); obtain ⟨nx2, hnx2, rfl⟩ := jnat hp4 hbx2 (by decide); clear hbx0 hbx1 hbx2; clear hp0 hp1 hp2 hp4; have hcs := (jband (decide_eq_true hp3) (jband (decide_eq_true hp5) (jband (decide_eq_true c1) (jband (decide_eq_true c25) (jband (decide_eq_true c56) (jband (decide_eq_true c73) (jband (decide_eq_true c81) (decide_eq_true c101)))))))); clear hp3 hp5 c1 c25 c56 c73 c81 c101; apply of_decide_eq_true; revert hcs; revert nx2; revert nx1; revert nx0; decide +kernel)⟩, rfl⟩)
            · refine J_iconst (v := 3) dX7_turned_104 (by decide) ?_
              refine J_goto (tgt := 109) dX7_turned_105 (by decide) ?_
              refine J_iadd dX7_turned_109 ?_
              exact J_ret (r := some (.int _)) dX7_turned_110 ⟨rfl, _, rfl, rfl⟩ (⟨⟨_, rfl, (j_rng _).1, (j_rng _).2, (by have hbx0 : x0.toInt < 4 := (show x0.toInt < 4 by omega); have hbx1 : x1.toInt < 48 := (by have q := jtur_cases x0.toInt; omega); have hbx2 : x2.toInt < 6 := (by have q := jdir_cases x0.toInt; omega); obtain ⟨nx0, hnx0, rfl⟩ := jnat hp0 hbx0 (by decide); obtain ⟨nx1, hnx1, rfl⟩ := jnat hp2 hbx1 (by decide); obtain ⟨nx2, hnx2, rfl⟩ := jnat hp4 hbx2 (by decide); clear hbx0 hbx1 hbx2; clear hp0 hp1 hp2 hp4; have hcs := (jband (decide_eq_true hp3) (jband (decide_eq_true hp5) (jband (decide_eq_true c1) (jband (decide_eq_true c25) (jband (decide_eq_true c56) (jband (decide_eq_true c73) (jband (decide_eq_true c81) (decide_eq_true c101)))))))); clear hp3 hp5 c1 c25 c56 c73 c81 c101; apply of_decide_eq_true; revert hcs; revert nx2; revert nx1; revert nx0; decide +kernel)⟩, rfl⟩)
    · refine J_iload_n dX7_turned_28 rfl ?_
      refine J_bipush (v := 6) dX7_turned_29 (by decide) ?_
      refine J_icmp_ge (tgt := 43) dX7_turned_31 (by decide) (fun c31 => ?_) (fun c31 => ?_)
      · refine J_iload_n dX7_turned_43 rfl ?_
        refine J_iload_n dX7_turned_44 rfl ?_
        refine J_isub dX7_turned_45 ?_
        refine J_bipush (v := 6) dX7_turned_46 (by decide) ?_
        refine J_irem dX7_turned_48 (by decide) ?_
        exact J_ret (r := some (.int _)) dX7_turned_49 ⟨rfl, _, rfl, rfl⟩ (⟨⟨_, rfl, (j_rng _).1, (j_rng _).2, (by have hbx0 : x0.toInt < 4 := (show x0.toInt < 4 by omega); have hbx1 : x1.toInt < 48 := (by have q := jtur_cases x0.toInt; omega); have hbx2 : x2.toInt < 6 := (by have q := jdir_cases x0.toInt; omega); obtain ⟨nx0, hnx0, rfl⟩ := jnat hp0 hbx0 (by decide); obtain ⟨nx1, hnx1, rfl⟩ := jnat hp2 hbx1 (by decide); obtain ⟨nx2, hnx2, rfl⟩ := jnat hp4 hbx2 (by decide); clear hbx0 hbx1 hbx2; clear hp0 hp1 hp2 hp4; have hcs := (jband (decide_eq_true hp3) (jband (decide_eq_true hp5) (jband (decide_eq_true c1) (jband (decide_eq_true c25) (decide_eq_true c31))))); clear hp3 hp5 c1 c25 c31; apply of_decide_eq_true; revert hcs; revert nx2; revert nx1; revert nx0; decide +kernel)⟩, rfl⟩)
      · refine J_iload_n dX7_turned_34 rfl ?_
        refine J_iload_n dX7_turned_35 rfl ?_
        refine J_iadd dX7_turned_36 ?_
        refine J_bipush (v := 6) dX7_turned_37 (by decide) ?_
        refine J_irem dX7_turned_39 (by decide) ?_
        refine J_goto (tgt := 49) dX7_turned_40 (by decide) ?_
        exact J_ret (r := some (.int _)) dX7_turned_49 ⟨rfl, _, rfl, rfl⟩ (⟨⟨_, rfl, (j_rng _).1, (j_rng _).2, (by have hbx0 : x0.toInt < 4 := (show x0.toInt < 4 by omega); have hbx1 : x1.toInt < 48 := (by have q := jtur_cases x0.toInt; omega); have hbx2 : x2.toInt < 6 := (by have q := jdir_cases x0.toInt; omega); obtain ⟨nx0, hnx0, rfl⟩ := jnat hp0 hbx0 (by decide); obtain ⟨nx1, hnx1, rfl⟩ := jnat hp2 hbx1 (by decide); obtain ⟨nx2, hnx2, rfl⟩ := jnat hp4 hbx2 (by decide); clear hbx0 hbx1 hbx2; clear hp0 hp1 hp2 hp4; have hcs := (jband (decide_eq_true hp3) (jband (decide_eq_true hp5) (jband (decide_eq_true c1) (jband (decide_eq_true c25) (decide_eq_true c31))))); clear hp3 hp5 c1 c25 c31; apply of_decide_eq_true; revert hcs; revert nx2; revert nx1; revert nx0; decide +kernel)⟩, rfl⟩)
  · refine J_iload_n dX7_turned_4 rfl ?_
    refine J_iconst (v := 4) dX7_turned_5 (by decide) ?_
    refine J_icmp_ge (tgt := 17) dX7_turned_6 (by decide) (fun c6 => ?_) (fun c6 => ?_)
    · refine J_iload_n dX7_turned_17 rfl ?_
      refine J_iload_n dX7_turned_18 rfl ?_
      refine J_isub dX7_turned_19 ?_
      refine J_iconst (v := 4) dX7_turned_20 (by decide) ?_
      refine J_irem dX7_turned_21 (by decide) ?_
      exact J_ret (r := some (.int _)) dX7_turned_22 ⟨rfl, _, rfl, rfl⟩ (⟨⟨_, rfl, (j_rng _).1, (j_rng _).2, (by have hbx0 : x0.toInt < 4 := (show x0.toInt < 4 by omega); have hbx1 : x1.toInt < 48 := (by have q := jtur_cases x0.toInt; omega); have hbx2 : x2.toInt < 6 := (by have q := jdir_cases x0.toInt; omega); obtain ⟨nx0, hnx0, rfl⟩ := jnat hp0 hbx0 (by decide); obtain ⟨nx1, hnx1, rfl⟩ := jnat hp2 hbx1 (by decide); obtain ⟨nx2, hnx2, rfl⟩ := jnat hp4 hbx2 (by decide); clear hbx0 hbx1 hbx2; clear hp0 hp1 hp2 hp4; have hcs := (jband (decide_eq_true hp3) (jband (decide_eq_true hp5) (jband (decide_eq_true c1) (decide_eq_true c6)))); clear hp3 hp5 c1 c6; apply of_decide_eq_true; revert hcs; revert nx2; revert nx1; revert nx0; decide +kernel)⟩, rfl⟩)
    · refine J_iload_n dX7_turned_9 rfl ?_
      refine J_iload_n dX7_turned_10 rfl ?_
      refine J_iadd dX7_turned_11 ?_
      refine J_iconst (v := 4) dX7_turned_12 (by decide) ?_
      refine J_irem dX7_turned_13 (by decide) ?_
      refine J_goto (tgt := 22) dX7_turned_14 (by decide) ?_
      exact J_ret (r := some (.int _)) dX7_turned_22 ⟨rfl, _, rfl, rfl⟩ (⟨⟨_, rfl, (j_rng _).1, (j_rng _).2, (by have hbx0 : x0.toInt < 4 := (show x0.toInt < 4 by omega); have hbx1 : x1.toInt < 48 := (by have q := jtur_cases x0.toInt; omega); have hbx2 : x2.toInt < 6 := (by have q := jdir_cases x0.toInt; omega); obtain ⟨nx0, hnx0, rfl⟩ := jnat hp0 hbx0 (by decide); obtain ⟨nx1, hnx1, rfl⟩ := jnat hp2 hbx1 (by decide); obtain ⟨nx2, hnx2, rfl⟩ := jnat hp4 hbx2 (by decide); clear hbx0 hbx1 hbx2; clear hp0 hp1 hp2 hp4; have hcs := (jband (decide_eq_true hp3) (jband (decide_eq_true hp5) (jband (decide_eq_true c1) (decide_eq_true c6)))); clear hp3 hp5 c1 c6; apply of_decide_eq_true; revert hcs; revert nx2; revert nx1; revert nx0; decide +kernel)⟩, rfl⟩)
set_option maxRecDepth 100000 in
set_option maxHeartbeats 4000000 in
theorem w_X7_opposite_z {tS : jTS} (d : Nat) (V0 : jH) (x0 : Int32) (x1 : Int32)  (hd : 0 ≤ d)    (hp0 : 0 ≤ x0.toInt) (hp1 : x0.toInt ≤ 3) (hp2 : 0 ≤ x1.toInt) (hp3 : x1.toInt < jdir x0.toInt) : jTot tS mX7_opposite d [.int x0, .int x1] V0 0 0 (fun r V => (fun r _ => ∃ y : Int32, r = some (.int y) ∧ ((-2147483648) ≤ y.toInt) ∧ (y.toInt ≤ 2147483647) ∧ (y.toInt = jopp x0.toInt x1.toInt)) r V ∧ V = V0) := by
  refine jTot.of_J [some (.int x0), some (.int x1)] moX7_opposite (Nat.le_of_ble_eq_true rfl) rfl ?_
  refine J_iload_n dX7_opposite_0 rfl ?_
  refine J_if_ne (tgt := 12) dX7_opposite_1 (by decide) (fun c1 => ?_) (fun c1 => ?_)
  · refine J_iload_n dX7_opposite_12 rfl ?_
    refine J_iconst (v := 2) dX7_opposite_13 (by decide) ?_
    refine J_icmp_ne (tgt := 32) dX7_opposite_14 (by decide) (fun c14 => ?_) (fun c14 => ?_)
    · refine J_iload_n dX7_opposite_32 rfl ?_
      refine J_iconst (v := 3) dX7_opposite_33 (by decide) ?_
      refine J_iadd dX7_opposite_34 ?_
      refine J_bipush (v := 6) dX7_opposite_35 (by decide) ?_
      refine J_irem dX7_opposite_37 (by decide) ?_
      exact J_ret (r := some (.int _)) dX7_opposite_38 ⟨rfl, _, rfl, rfl⟩ (⟨⟨_, rfl, (j_rng _).1, (j_rng _).2, (by have hbx0 : x0.toInt < 4 := (show x0.toInt < 4 by omega); have hbx1 : x1.toInt < 6 := (by have q := jdir_cases x0.toInt; omega); obtain ⟨nx0, hnx0, rfl⟩ := jnat hp0 hbx0 (by decide); obtain ⟨nx1, hnx1, rfl⟩ := jnat hp2 hbx1 (by decide); clear hbx0 hbx1; clear hp0 hp1 hp2 hp3; have hcs := (jband (decide_eq_true c1) (decide_eq_true c14)); clear c1 c14; apply of_decide_eq_true; revert hcs; revert nx1; revert nx0; decide +kernel)⟩, rfl⟩)
    · refine J_iload_n dX7_opposite_17 rfl ?_
      refine J_iconst (v := 2) dX7_opposite_18 (by decide) ?_
      refine J_icmp_ne (tgt := 26) dX7_opposite_19 (by decide) (fun c19 => ?_) (fun c19 => ?_)
      · refine J_iconst (v := 1) dX7_opposite_26 (by decide) ?_
        refine J_iload_n dX7_opposite_27 rfl ?_
        refine J_isub dX7_opposite_28 ?_
        refine J_goto (tgt := 38) dX7_opposite_29 (by decide) ?_
        exact J_ret (r := some (.int _)) dX7_opposite_38 ⟨rfl, _, rfl, rfl⟩ (⟨⟨_, rfl, (j_rng _).1, (j_rng _).2, (by have hbx0 : x0.toInt < 4 := (show x0.toInt < 4 by omega); have hbx1 : x1.toInt < 6 := (by have q := jdir_cases x0.toInt; omega); obtain ⟨nx0, hnx0, rfl⟩ := jnat hp0 hbx0 (by decide); obtain ⟨nx1, hnx1, rfl⟩ := jnat hp2 hbx1 (by decide); clear hbx0 hbx1; clear hp0 hp1 hp2 hp3; have hcs := (jband (decide_eq_true c1) (jband (decide_eq_true c14) (decide_eq_true c19))); clear c1 c14 c19; apply of_decide_eq_true; revert hcs; revert nx1; revert nx0; decide +kernel)⟩, rfl⟩)
      · refine J_iconst (v := 2) dX7_opposite_22 (by decide) ?_
        refine J_goto (tgt := 38) dX7_opposite_23 (by decide) ?_
        exact J_ret (r := some (.int _)) dX7_opposite_38 ⟨rfl, _, rfl, rfl⟩ (⟨⟨_, rfl, (j_rng _).1, (j_rng _).2, (by have hbx0 : x0.toInt < 4 := (show x0.toInt < 4 by omega); have hbx1 : x1.toInt < 6 := (by have q := jdir_cases x0.toInt; omega); obtain ⟨nx0, hnx0, rfl⟩ := jnat hp0 hbx0 (by decide); obtain ⟨nx1, hnx1, rfl⟩ := jnat hp2 hbx1 (by decide); clear hbx0 hbx1; clear hp0 hp1 hp2 hp3; have hcs := (jband (decide_eq_true c1) (jband (decide_eq_true c14) (decide_eq_true c19))); clear c1 c14 c19; apply of_decide_eq_true; revert hcs; revert nx1; revert nx0; decide +kernel)⟩, rfl⟩)
  · refine J_iload_n dX7_opposite_4 rfl ?_
    refine J_iconst (v := 2) dX7_opposite_5 (by decide) ?_
    refine J_iadd dX7_opposite_6 ?_
    refine J_iconst (v := 4) dX7_opposite_7 (by decide) ?_
    refine J_irem dX7_opposite_8 (by decide) ?_
    refine J_goto (tgt := 38) dX7_opposite_9 (by decide) ?_
    exact J_ret (r := some (.int _)) dX7_opposite_38 ⟨rfl, _, rfl, rfl⟩ (⟨⟨_, rfl, (j_rng _).1, (j_rng _).2, (by have hbx0 : x0.toInt < 4 := (show x0.toInt < 4 by omega); have hbx1 : x1.toInt < 6 := (by have q := jdir_cases x0.toInt; omega); obtain ⟨nx0, hnx0, rfl⟩ := jnat hp0 hbx0 (by decide); obtain ⟨nx1, hnx1, rfl⟩ := jnat hp2 hbx1 (by decide); clear hbx0 hbx1; clear hp0 hp1 hp2 hp3; have hcs := (decide_eq_true c1); clear c1; apply of_decide_eq_true; revert hcs; revert nx1; revert nx0; decide +kernel)⟩, rfl⟩)
set_option maxRecDepth 100000 in
set_option maxHeartbeats 8000000 in
theorem w_X7_in {tS : jTS} (d : Nat) (V0 : jH) (x0 : Int32) (x1 : Int32) (x2 : Int32) (hd : 0 ≤ d)   : jTot tS mX7_in d [.int x0, .int x1, .int x2] V0 0 0 (fun r V => (fun r _ => ∃ y : Int32, r = some (.int y) ∧ (0 ≤ y.toInt) ∧ (y.toInt ≤ 1) ∧ (jIf y 1 (x1.toInt ≤ x0.toInt ∧ x0.toInt ≤ x2.toInt)) ∧ (jIf y 0 (¬ (x1.toInt ≤ x0.toInt ∧ x0.toInt ≤ x2.toInt)))) r V ∧ V = V0) := by
  refine jTot.of_J [some (.int x0), some (.int x1), some (.int x2)] moX7_in (Nat.le_of_ble_eq_true rfl) rfl ?_
  have hrx0 := j_rng x0
  have hrx1 := j_rng x1
  have hrx2 := j_rng x2
  refine J_iload_n dX7_in_0 rfl ?_
  refine J_iload_n dX7_in_1 rfl ?_
  refine Jz_icmp_lt (tgt := 14) jEq.rf jEq.rf dX7_in_2 (by decide) (fun c2 => ?_) (fun c2 => ?_)
  · refine Jz_iconst 0 dX7_in_14 (by decide) (fun y14 he14 => ?_)
    exact J_ret (r := some (.int _)) dX7_in_15 ⟨rfl, _, rfl, (nar_b (by (try simp only [he14.eq, true_and, and_true]) <;> omega) (by (try simp only [he14.eq, true_and, and_true]) <;> omega))⟩ (⟨⟨_, rfl, (by (try simp only [he14.eq, true_and, and_true]) <;> omega), (by (try simp only [he14.eq, true_and, and_true]) <;> omega), (fun h => by (try simp only [he14.eq] at h); omega), (fun h => by (try simp only [he14.eq] at h); omega)⟩, rfl⟩)
  · refine J_iload_n dX7_in_5 rfl ?_
    refine J_iload_n dX7_in_6 rfl ?_
    refine Jz_icmp_gt (tgt := 14) jEq.rf jEq.rf dX7_in_7 (by decide) (fun c7 => ?_) (fun c7 => ?_)
    · refine Jz_iconst 0 dX7_in_14 (by decide) (fun y14 he14 => ?_)
      exact J_ret (r := some (.int _)) dX7_in_15 ⟨rfl, _, rfl, (nar_b (by (try simp only [he14.eq, true_and, and_true]) <;> omega) (by (try simp only [he14.eq, true_and, and_true]) <;> omega))⟩ (⟨⟨_, rfl, (by (try simp only [he14.eq, true_and, and_true]) <;> omega), (by (try simp only [he14.eq, true_and, and_true]) <;> omega), (fun h => by (try simp only [he14.eq] at h); omega), (fun h => by (try simp only [he14.eq] at h); omega)⟩, rfl⟩)
    · refine Jz_iconst 1 dX7_in_10 (by decide) (fun y10 he10 => ?_)
      refine J_goto (tgt := 15) dX7_in_11 (by decide) ?_
      exact J_ret (r := some (.int _)) dX7_in_15 ⟨rfl, _, rfl, (nar_b (by (try simp only [he10.eq, true_and, and_true]) <;> omega) (by (try simp only [he10.eq, true_and, and_true]) <;> omega))⟩ (⟨⟨_, rfl, (by (try simp only [he10.eq, true_and, and_true]) <;> omega), (by (try simp only [he10.eq, true_and, and_true]) <;> omega), (fun h => by (try simp only [he10.eq] at h); omega), (fun h => by (try simp only [he10.eq] at h); omega)⟩, rfl⟩)
set_option maxRecDepth 100000 in
set_option maxHeartbeats 8000000 in
theorem w_X7_directions {tS : jTS} (d : Nat) (V0 : jH) (x0 : Int32) (hd : 0 ≤ d)   : jTot tS mX7_directions d [.int x0] V0 0 0 (fun r V => (fun r _ => ∃ y : Int32, r = some (.int y) ∧ (3 ≤ y.toInt) ∧ (y.toInt ≤ 6) ∧ (y.toInt = jdir x0.toInt)) r V ∧ V = V0) := by
  refine jTot.of_J [some (.int x0)] moX7_directions (Nat.le_of_ble_eq_true rfl) rfl ?_
  have hrx0 := j_rng x0
  have hjd := jdir_cases x0.toInt
  refine J_iload_n dX7_directions_0 rfl ?_
  refine Jz_if_ne (tgt := 8) jEq.rf dX7_directions_1 (by decide) (fun c1 => ?_) (fun c1 => ?_)
  · refine J_iload_n dX7_directions_8 rfl ?_
    refine Jz_iconst 2 dX7_directions_9 (by decide) (fun y9 he9 => ?_)
    refine Jz_icmp_ne (tgt := 17) jEq.rf he9 dX7_directions_10 (by decide) (fun c10 => ?_) (fun c10 => ?_)
    · refine Jz_bipush 6 dX7_directions_17 (by decide) (fun y17 he17 => ?_)
      exact J_ret (r := some (.int _)) dX7_directions_19 ⟨rfl, _, rfl, rfl⟩ (⟨⟨_, rfl, (by (try simp only [he17.eq, true_and, and_true]) <;> omega), (by (try simp only [he17.eq, true_and, and_true]) <;> omega), (by (try simp only [he17.eq, true_and, and_true]) <;> omega)⟩, rfl⟩)
    · refine Jz_iconst 3 dX7_directions_13 (by decide) (fun y13 he13 => ?_)
      refine J_goto (tgt := 19) dX7_directions_14 (by decide) ?_
      exact J_ret (r := some (.int _)) dX7_directions_19 ⟨rfl, _, rfl, rfl⟩ (⟨⟨_, rfl, (by (try simp only [he13.eq, true_and, and_true]) <;> omega), (by (try simp only [he13.eq, true_and, and_true]) <;> omega), (by (try simp only [he13.eq, true_and, and_true]) <;> omega)⟩, rfl⟩)
  · refine Jz_iconst 4 dX7_directions_4 (by decide) (fun y4 he4 => ?_)
    refine J_goto (tgt := 19) dX7_directions_5 (by decide) ?_
    exact J_ret (r := some (.int _)) dX7_directions_19 ⟨rfl, _, rfl, rfl⟩ (⟨⟨_, rfl, (by (try simp only [he4.eq, true_and, and_true]) <;> omega), (by (try simp only [he4.eq, true_and, and_true]) <;> omega), (by (try simp only [he4.eq, true_and, and_true]) <;> omega)⟩, rfl⟩)
set_option maxRecDepth 100000 in
set_option maxHeartbeats 8000000 in
theorem w_X7_turns {tS : jTS} (d : Nat) (V0 : jH) (x0 : Int32) (hd : 0 ≤ d)   : jTot tS mX7_turns d [.int x0] V0 0 0 (fun r V => (fun r _ => ∃ y : Int32, r = some (.int y) ∧ (0 ≤ y.toInt) ∧ (y.toInt ≤ 48) ∧ (y.toInt = jtur x0.toInt)) r V ∧ V = V0) := by
  refine jTot.of_J [some (.int x0)] moX7_turns (Nat.le_of_ble_eq_true rfl) rfl ?_
  have hrx0 := j_rng x0
  have hjt := jtur_cases x0.toInt
  refine J_iload_n dX7_turns_0 rfl ?_
  refine Jz_if_ne (tgt := 9) jEq.rf dX7_turns_1 (by decide) (fun c1 => ?_) (fun c1 => ?_)
  · refine J_iload_n dX7_turns_9 rfl ?_
    refine Jz_iconst 1 dX7_turns_10 (by decide) (fun y10 he10 => ?_)
    refine Jz_icmp_ne (tgt := 19) jEq.rf he10 dX7_turns_11 (by decide) (fun c11 => ?_) (fun c11 => ?_)
    · refine J_iload_n dX7_turns_19 rfl ?_
      refine Jz_iconst 3 dX7_turns_20 (by decide) (fun y20 he20 => ?_)
      refine Jz_icmp_ne (tgt := 29) jEq.rf he20 dX7_turns_21 (by decide) (fun c21 => ?_) (fun c21 => ?_)
      · refine Jz_iconst 0 dX7_turns_29 (by decide) (fun y29 he29 => ?_)
        exact J_ret (r := some (.int _)) dX7_turns_30 ⟨rfl, _, rfl, rfl⟩ (⟨⟨_, rfl, (by (try simp only [he29.eq, true_and, and_true]) <;> omega), (by (try simp only [he29.eq, true_and, and_true]) <;> omega), (by (try simp only [he29.eq, true_and, and_true]) <;> omega)⟩, rfl⟩)
      · refine Jz_bipush 48 dX7_turns_24 (by decide) (fun y24 he24 => ?_)
        refine J_goto (tgt := 30) dX7_turns_26 (by decide) ?_
        exact J_ret (r := some (.int _)) dX7_turns_30 ⟨rfl, _, rfl, rfl⟩ (⟨⟨_, rfl, (by (try simp only [he24.eq, true_and, and_true]) <;> omega), (by (try simp only [he24.eq, true_and, and_true]) <;> omega), (by (try simp only [he24.eq, true_and, and_true]) <;> omega)⟩, rfl⟩)
    · refine Jz_bipush 12 dX7_turns_14 (by decide) (fun y14 he14 => ?_)
      refine J_goto (tgt := 30) dX7_turns_16 (by decide) ?_
      exact J_ret (r := some (.int _)) dX7_turns_30 ⟨rfl, _, rfl, rfl⟩ (⟨⟨_, rfl, (by (try simp only [he14.eq, true_and, and_true]) <;> omega), (by (try simp only [he14.eq, true_and, and_true]) <;> omega), (by (try simp only [he14.eq, true_and, and_true]) <;> omega)⟩, rfl⟩)
  · refine Jz_bipush 8 dX7_turns_4 (by decide) (fun y4 he4 => ?_)
    refine J_goto (tgt := 30) dX7_turns_6 (by decide) ?_
    exact J_ret (r := some (.int _)) dX7_turns_30 ⟨rfl, _, rfl, rfl⟩ (⟨⟨_, rfl, (by (try simp only [he4.eq, true_and, and_true]) <;> omega), (by (try simp only [he4.eq, true_and, and_true]) <;> omega), (by (try simp only [he4.eq, true_and, and_true]) <;> omega)⟩, rfl⟩)
set_option maxRecDepth 100000 in
set_option maxHeartbeats 8000000 in
theorem w_X7_stepX {tS : jTS} (d : Nat) (V0 : jH) (x0 : Int32) (x1 : Int32) (hd : 0 ≤ d)   : jTot tS mX7_stepX d [.int x0, .int x1] V0 0 0 (fun r V => (fun r _ => ∃ y : Int32, r = some (.int y) ∧ ((-1) ≤ y.toInt) ∧ (y.toInt ≤ 1)) r V ∧ V = V0) := by
  refine jTot.of_J [some (.int x0), some (.int x1)] moX7_stepX (Nat.le_of_ble_eq_true rfl) rfl ?_
  have hrx0 := j_rng x0
  have hrx1 := j_rng x1
  refine J_iload_n dX7_stepX_0 rfl ?_
  rcases jsw2 x0 with hx1 | hx1 | hx1 | hx1 | hx1
  · have hx1t : x0.toInt = 0 := by rw [hx1]; rfl
    clear hx1
    refine J_tableIn (tgt := 28) dX7_stepX_1 (by omega) (by omega) (by rw [hx1t]; rfl) (by decide) ?_
    refine J_iload_n dX7_stepX_28 rfl ?_
    refine Jz_if_ne (tgt := 36) jEq.rf dX7_stepX_29 (by decide) (fun c29 => ?_) (fun c29 => ?_)
    · refine J_iload_n dX7_stepX_36 rfl ?_
      refine Jz_iconst 2 dX7_stepX_37 (by decide) (fun y37 he37 => ?_)
      refine Jz_icmp_ne (tgt := 45) jEq.rf he37 dX7_stepX_38 (by decide) (fun c38 => ?_) (fun c38 => ?_)
      · refine Jz_iconst 0 dX7_stepX_45 (by decide) (fun y45 he45 => ?_)
        exact J_ret (r := some (.int _)) dX7_stepX_46 ⟨rfl, _, rfl, rfl⟩ (⟨⟨_, rfl, (by (try simp only [he45.eq, true_and, and_true]) <;> omega), (by (try simp only [he45.eq, true_and, and_true]) <;> omega)⟩, rfl⟩)
      · refine Jz_iconst (-1) dX7_stepX_41 (by decide) (fun y41 he41 => ?_)
        refine J_goto (tgt := 46) dX7_stepX_42 (by decide) ?_
        exact J_ret (r := some (.int _)) dX7_stepX_46 ⟨rfl, _, rfl, rfl⟩ (⟨⟨_, rfl, (by (try simp only [he41.eq, true_and, and_true]) <;> omega), (by (try simp only [he41.eq, true_and, and_true]) <;> omega)⟩, rfl⟩)
    · refine Jz_iconst 1 dX7_stepX_32 (by decide) (fun y32 he32 => ?_)
      refine J_goto (tgt := 46) dX7_stepX_33 (by decide) ?_
      exact J_ret (r := some (.int _)) dX7_stepX_46 ⟨rfl, _, rfl, rfl⟩ (⟨⟨_, rfl, (by (try simp only [he32.eq, true_and, and_true]) <;> omega), (by (try simp only [he32.eq, true_and, and_true]) <;> omega)⟩, rfl⟩)
  · have hx1t : x0.toInt = 1 := by rw [hx1]; rfl
    clear hx1
    refine J_tableIn (tgt := 47) dX7_stepX_1 (by omega) (by omega) (by rw [hx1t]; rfl) (by decide) ?_
    refine J_iload_n dX7_stepX_47 rfl ?_
    refine Jz_if_eq (tgt := 56) jEq.rf dX7_stepX_48 (by decide) (fun c48 => ?_) (fun c48 => ?_)
    · refine Jz_iconst 1 dX7_stepX_56 (by decide) (fun y56 he56 => ?_)
      refine J_goto (tgt := 75) dX7_stepX_57 (by decide) ?_
      exact J_ret (r := some (.int _)) dX7_stepX_75 ⟨rfl, _, rfl, rfl⟩ (⟨⟨_, rfl, (by (try simp only [he56.eq, true_and, and_true]) <;> omega), (by (try simp only [he56.eq, true_and, and_true]) <;> omega)⟩, rfl⟩)
    · refine J_iload_n dX7_stepX_51 rfl ?_
      refine Jz_iconst 5 dX7_stepX_52 (by decide) (fun y52 he52 => ?_)
      refine Jz_icmp_ne (tgt := 60) jEq.rf he52 dX7_stepX_53 (by decide) (fun c53 => ?_) (fun c53 => ?_)
      · refine J_iload_n dX7_stepX_60 rfl ?_
        refine Jz_iconst 2 dX7_stepX_61 (by decide) (fun y61 he61 => ?_)
        refine Jz_icmp_eq (tgt := 70) jEq.rf he61 dX7_stepX_62 (by decide) (fun c62 => ?_) (fun c62 => ?_)
        · refine Jz_iconst (-1) dX7_stepX_70 (by decide) (fun y70 he70 => ?_)
          refine J_goto (tgt := 75) dX7_stepX_71 (by decide) ?_
          exact J_ret (r := some (.int _)) dX7_stepX_75 ⟨rfl, _, rfl, rfl⟩ (⟨⟨_, rfl, (by (try simp only [he70.eq, true_and, and_true]) <;> omega), (by (try simp only [he70.eq, true_and, and_true]) <;> omega)⟩, rfl⟩)
        · refine J_iload_n dX7_stepX_65 rfl ?_
          refine Jz_iconst 3 dX7_stepX_66 (by decide) (fun y66 he66 => ?_)
          refine Jz_icmp_ne (tgt := 74) jEq.rf he66 dX7_stepX_67 (by decide) (fun c67 => ?_) (fun c67 => ?_)
          · refine Jz_iconst 0 dX7_stepX_74 (by decide) (fun y74 he74 => ?_)
            exact J_ret (r := some (.int _)) dX7_stepX_75 ⟨rfl, _, rfl, rfl⟩ (⟨⟨_, rfl, (by (try simp only [he74.eq, true_and, and_true]) <;> omega), (by (try simp only [he74.eq, true_and, and_true]) <;> omega)⟩, rfl⟩)
          · refine Jz_iconst (-1) dX7_stepX_70 (by decide) (fun y70 he70 => ?_)
            refine J_goto (tgt := 75) dX7_stepX_71 (by decide) ?_
            exact J_ret (r := some (.int _)) dX7_stepX_75 ⟨rfl, _, rfl, rfl⟩ (⟨⟨_, rfl, (by (try simp only [he70.eq, true_and, and_true]) <;> omega), (by (try simp only [he70.eq, true_and, and_true]) <;> omega)⟩, rfl⟩)
      · refine Jz_iconst 1 dX7_stepX_56 (by decide) (fun y56 he56 => ?_)
        refine J_goto (tgt := 75) dX7_stepX_57 (by decide) ?_
        exact J_ret (r := some (.int _)) dX7_stepX_75 ⟨rfl, _, rfl, rfl⟩ (⟨⟨_, rfl, (by (try simp only [he56.eq, true_and, and_true]) <;> omega), (by (try simp only [he56.eq, true_and, and_true]) <;> omega)⟩, rfl⟩)
  · have hx1t : x0.toInt = 2 := by rw [hx1]; rfl
    clear hx1
    refine J_tableIn (tgt := 76) dX7_stepX_1 (by omega) (by omega) (by rw [hx1t]; rfl) (by decide) ?_
    refine J_iload_n dX7_stepX_76 rfl ?_
    refine Jz_if_ne (tgt := 84) jEq.rf dX7_stepX_77 (by decide) (fun c77 => ?_) (fun c77 => ?_)
    · refine J_iload_n dX7_stepX_84 rfl ?_
      refine Jz_iconst 1 dX7_stepX_85 (by decide) (fun y85 he85 => ?_)
      refine Jz_icmp_ne (tgt := 93) jEq.rf he85 dX7_stepX_86 (by decide) (fun c86 => ?_) (fun c86 => ?_)
      · refine Jz_iconst 0 dX7_stepX_93 (by decide) (fun y93 he93 => ?_)
        exact J_ret (r := some (.int _)) dX7_stepX_94 ⟨rfl, _, rfl, rfl⟩ (⟨⟨_, rfl, (by (try simp only [he93.eq, true_and, and_true]) <;> omega), (by (try simp only [he93.eq, true_and, and_true]) <;> omega)⟩, rfl⟩)
      · refine Jz_iconst (-1) dX7_stepX_89 (by decide) (fun y89 he89 => ?_)
        refine J_goto (tgt := 94) dX7_stepX_90 (by decide) ?_
        exact J_ret (r := some (.int _)) dX7_stepX_94 ⟨rfl, _, rfl, rfl⟩ (⟨⟨_, rfl, (by (try simp only [he89.eq, true_and, and_true]) <;> omega), (by (try simp only [he89.eq, true_and, and_true]) <;> omega)⟩, rfl⟩)
    · refine Jz_iconst 1 dX7_stepX_80 (by decide) (fun y80 he80 => ?_)
      refine J_goto (tgt := 94) dX7_stepX_81 (by decide) ?_
      exact J_ret (r := some (.int _)) dX7_stepX_94 ⟨rfl, _, rfl, rfl⟩ (⟨⟨_, rfl, (by (try simp only [he80.eq, true_and, and_true]) <;> omega), (by (try simp only [he80.eq, true_and, and_true]) <;> omega)⟩, rfl⟩)
  · refine J_tableOut (tgt := 95) dX7_stepX_1 (Or.inl hx1) (by decide) ?_
    refine J_iload_n dX7_stepX_95 rfl ?_
    refine Jz_if_ne (tgt := 103) jEq.rf dX7_stepX_96 (by decide) (fun c96 => ?_) (fun c96 => ?_)
    · refine J_iload_n dX7_stepX_103 rfl ?_
      refine Jz_iconst 3 dX7_stepX_104 (by decide) (fun y104 he104 => ?_)
      refine Jz_icmp_ne (tgt := 112) jEq.rf he104 dX7_stepX_105 (by decide) (fun c105 => ?_) (fun c105 => ?_)
      · refine Jz_iconst 0 dX7_stepX_112 (by decide) (fun y112 he112 => ?_)
        exact J_ret (r := some (.int _)) dX7_stepX_113 ⟨rfl, _, rfl, rfl⟩ (⟨⟨_, rfl, (by (try simp only [he112.eq, true_and, and_true]) <;> omega), (by (try simp only [he112.eq, true_and, and_true]) <;> omega)⟩, rfl⟩)
      · refine Jz_iconst (-1) dX7_stepX_108 (by decide) (fun y108 he108 => ?_)
        refine J_goto (tgt := 113) dX7_stepX_109 (by decide) ?_
        exact J_ret (r := some (.int _)) dX7_stepX_113 ⟨rfl, _, rfl, rfl⟩ (⟨⟨_, rfl, (by (try simp only [he108.eq, true_and, and_true]) <;> omega), (by (try simp only [he108.eq, true_and, and_true]) <;> omega)⟩, rfl⟩)
    · refine Jz_iconst 1 dX7_stepX_99 (by decide) (fun y99 he99 => ?_)
      refine J_goto (tgt := 113) dX7_stepX_100 (by decide) ?_
      exact J_ret (r := some (.int _)) dX7_stepX_113 ⟨rfl, _, rfl, rfl⟩ (⟨⟨_, rfl, (by (try simp only [he99.eq, true_and, and_true]) <;> omega), (by (try simp only [he99.eq, true_and, and_true]) <;> omega)⟩, rfl⟩)
  · refine J_tableOut (tgt := 95) dX7_stepX_1 (Or.inr hx1) (by decide) ?_
    refine J_iload_n dX7_stepX_95 rfl ?_
    refine Jz_if_ne (tgt := 103) jEq.rf dX7_stepX_96 (by decide) (fun c96 => ?_) (fun c96 => ?_)
    · refine J_iload_n dX7_stepX_103 rfl ?_
      refine Jz_iconst 3 dX7_stepX_104 (by decide) (fun y104 he104 => ?_)
      refine Jz_icmp_ne (tgt := 112) jEq.rf he104 dX7_stepX_105 (by decide) (fun c105 => ?_) (fun c105 => ?_)
      · refine Jz_iconst 0 dX7_stepX_112 (by decide) (fun y112 he112 => ?_)
        exact J_ret (r := some (.int _)) dX7_stepX_113 ⟨rfl, _, rfl, rfl⟩ (⟨⟨_, rfl, (by (try simp only [he112.eq, true_and, and_true]) <;> omega), (by (try simp only [he112.eq, true_and, and_true]) <;> omega)⟩, rfl⟩)
      · refine Jz_iconst (-1) dX7_stepX_108 (by decide) (fun y108 he108 => ?_)
        refine J_goto (tgt := 113) dX7_stepX_109 (by decide) ?_
        exact J_ret (r := some (.int _)) dX7_stepX_113 ⟨rfl, _, rfl, rfl⟩ (⟨⟨_, rfl, (by (try simp only [he108.eq, true_and, and_true]) <;> omega), (by (try simp only [he108.eq, true_and, and_true]) <;> omega)⟩, rfl⟩)
    · refine Jz_iconst 1 dX7_stepX_99 (by decide) (fun y99 he99 => ?_)
      refine J_goto (tgt := 113) dX7_stepX_100 (by decide) ?_
      exact J_ret (r := some (.int _)) dX7_stepX_113 ⟨rfl, _, rfl, rfl⟩ (⟨⟨_, rfl, (by (try simp only [he99.eq, true_and, and_true]) <;> omega), (by (try simp only [he99.eq, true_and, and_true]) <;> omega)⟩, rfl⟩)
set_option maxRecDepth 100000 in
set_option maxHeartbeats 8000000 in
theorem w_X7_stepY {tS : jTS} (d : Nat) (V0 : jH) (x0 : Int32) (x1 : Int32) (x2 : Int32) (hd : 0 ≤ d)   : jTot tS mX7_stepY d [.int x0, .int x1, .int x2] V0 0 0 (fun r V => (fun r _ => ∃ y : Int32, r = some (.int y) ∧ ((-1) ≤ y.toInt) ∧ (y.toInt ≤ 1)) r V ∧ V = V0) := by
  refine jTot.of_J [some (.int x0), some (.int x1), some (.int x2)] moX7_stepY (Nat.le_of_ble_eq_true rfl) rfl ?_
  have hrx0 := j_rng x0
  have hrx1 := j_rng x1
  have hrx2 := j_rng x2
  refine J_iload_n dX7_stepY_0 rfl ?_
  rcases jsw2 x0 with hx1 | hx1 | hx1 | hx1 | hx1
  · have hx1t : x0.toInt = 0 := by rw [hx1]; rfl
    clear hx1
    refine J_tableIn (tgt := 28) dX7_stepY_1 (by omega) (by omega) (by rw [hx1t]; rfl) (by decide) ?_
    refine J_iload_n dX7_stepY_28 rfl ?_
    refine Jz_iconst 1 dX7_stepY_29 (by decide) (fun y29 he29 => ?_)
    refine Jz_icmp_ne (tgt := 37) jEq.rf he29 dX7_stepY_30 (by decide) (fun c30 => ?_) (fun c30 => ?_)
    · refine J_iload_n dX7_stepY_37 rfl ?_
      refine Jz_iconst 3 dX7_stepY_38 (by decide) (fun y38 he38 => ?_)
      refine Jz_icmp_ne (tgt := 46) jEq.rf he38 dX7_stepY_39 (by decide) (fun c39 => ?_) (fun c39 => ?_)
      · refine Jz_iconst 0 dX7_stepY_46 (by decide) (fun y46 he46 => ?_)
        exact J_ret (r := some (.int _)) dX7_stepY_47 ⟨rfl, _, rfl, rfl⟩ (⟨⟨_, rfl, (by (try simp only [he46.eq, true_and, and_true]) <;> omega), (by (try simp only [he46.eq, true_and, and_true]) <;> omega)⟩, rfl⟩)
      · refine Jz_iconst (-1) dX7_stepY_42 (by decide) (fun y42 he42 => ?_)
        refine J_goto (tgt := 47) dX7_stepY_43 (by decide) ?_
        exact J_ret (r := some (.int _)) dX7_stepY_47 ⟨rfl, _, rfl, rfl⟩ (⟨⟨_, rfl, (by (try simp only [he42.eq, true_and, and_true]) <;> omega), (by (try simp only [he42.eq, true_and, and_true]) <;> omega)⟩, rfl⟩)
    · refine Jz_iconst 1 dX7_stepY_33 (by decide) (fun y33 he33 => ?_)
      refine J_goto (tgt := 47) dX7_stepY_34 (by decide) ?_
      exact J_ret (r := some (.int _)) dX7_stepY_47 ⟨rfl, _, rfl, rfl⟩ (⟨⟨_, rfl, (by (try simp only [he33.eq, true_and, and_true]) <;> omega), (by (try simp only [he33.eq, true_and, and_true]) <;> omega)⟩, rfl⟩)
  · have hx1t : x0.toInt = 1 := by rw [hx1]; rfl
    clear hx1
    refine J_tableIn (tgt := 48) dX7_stepY_1 (by omega) (by omega) (by rw [hx1t]; rfl) (by decide) ?_
    refine J_iload_n dX7_stepY_48 rfl ?_
    refine Jz_iconst 1 dX7_stepY_49 (by decide) (fun y49 he49 => ?_)
    refine Jz_icmp_eq (tgt := 58) jEq.rf he49 dX7_stepY_50 (by decide) (fun c50 => ?_) (fun c50 => ?_)
    · refine Jz_iconst 1 dX7_stepY_58 (by decide) (fun y58 he58 => ?_)
      refine J_goto (tgt := 77) dX7_stepY_59 (by decide) ?_
      exact J_ret (r := some (.int _)) dX7_stepY_77 ⟨rfl, _, rfl, rfl⟩ (⟨⟨_, rfl, (by (try simp only [he58.eq, true_and, and_true]) <;> omega), (by (try simp only [he58.eq, true_and, and_true]) <;> omega)⟩, rfl⟩)
    · refine J_iload_n dX7_stepY_53 rfl ?_
      refine Jz_iconst 2 dX7_stepY_54 (by decide) (fun y54 he54 => ?_)
      refine Jz_icmp_ne (tgt := 62) jEq.rf he54 dX7_stepY_55 (by decide) (fun c55 => ?_) (fun c55 => ?_)
      · refine J_iload_n dX7_stepY_62 rfl ?_
        refine Jz_iconst 4 dX7_stepY_63 (by decide) (fun y63 he63 => ?_)
        refine Jz_icmp_eq (tgt := 72) jEq.rf he63 dX7_stepY_64 (by decide) (fun c64 => ?_) (fun c64 => ?_)
        · refine Jz_iconst (-1) dX7_stepY_72 (by decide) (fun y72 he72 => ?_)
          refine J_goto (tgt := 77) dX7_stepY_73 (by decide) ?_
          exact J_ret (r := some (.int _)) dX7_stepY_77 ⟨rfl, _, rfl, rfl⟩ (⟨⟨_, rfl, (by (try simp only [he72.eq, true_and, and_true]) <;> omega), (by (try simp only [he72.eq, true_and, and_true]) <;> omega)⟩, rfl⟩)
        · refine J_iload_n dX7_stepY_67 rfl ?_
          refine Jz_iconst 5 dX7_stepY_68 (by decide) (fun y68 he68 => ?_)
          refine Jz_icmp_ne (tgt := 76) jEq.rf he68 dX7_stepY_69 (by decide) (fun c69 => ?_) (fun c69 => ?_)
          · refine Jz_iconst 0 dX7_stepY_76 (by decide) (fun y76 he76 => ?_)
            exact J_ret (r := some (.int _)) dX7_stepY_77 ⟨rfl, _, rfl, rfl⟩ (⟨⟨_, rfl, (by (try simp only [he76.eq, true_and, and_true]) <;> omega), (by (try simp only [he76.eq, true_and, and_true]) <;> omega)⟩, rfl⟩)
          · refine Jz_iconst (-1) dX7_stepY_72 (by decide) (fun y72 he72 => ?_)
            refine J_goto (tgt := 77) dX7_stepY_73 (by decide) ?_
            exact J_ret (r := some (.int _)) dX7_stepY_77 ⟨rfl, _, rfl, rfl⟩ (⟨⟨_, rfl, (by (try simp only [he72.eq, true_and, and_true]) <;> omega), (by (try simp only [he72.eq, true_and, and_true]) <;> omega)⟩, rfl⟩)
      · refine Jz_iconst 1 dX7_stepY_58 (by decide) (fun y58 he58 => ?_)
        refine J_goto (tgt := 77) dX7_stepY_59 (by decide) ?_
        exact J_ret (r := some (.int _)) dX7_stepY_77 ⟨rfl, _, rfl, rfl⟩ (⟨⟨_, rfl, (by (try simp only [he58.eq, true_and, and_true]) <;> omega), (by (try simp only [he58.eq, true_and, and_true]) <;> omega)⟩, rfl⟩)
  · have hx1t : x0.toInt = 2 := by rw [hx1]; rfl
    clear hx1
    refine J_tableIn (tgt := 78) dX7_stepY_1 (by omega) (by omega) (by rw [hx1t]; rfl) (by decide) ?_
    refine J_iload_n dX7_stepY_78 rfl ?_
    refine Jz_iconst 2 dX7_stepY_79 (by decide) (fun y79 he79 => ?_)
    refine Jz_icmp_ge (tgt := 87) jEq.rf he79 dX7_stepY_80 (by decide) (fun c80 => ?_) (fun c80 => ?_)
    · refine J_iload_n dX7_stepY_87 rfl ?_
      refine Jz_iconst 1 dX7_stepY_88 (by decide) (fun y88 he88 => ?_)
      refine Jz_iandw dX7_stepY_89 (fun y89  => ?_)
      refine Jz_if_ne (tgt := 97) jEq.rf dX7_stepY_90 (by decide) (fun c90 => ?_) (fun c90 => ?_)
      · refine Jz_iconst (-1) dX7_stepY_97 (by decide) (fun y97 he97 => ?_)
        exact J_ret (r := some (.int _)) dX7_stepY_98 ⟨rfl, _, rfl, rfl⟩ (⟨⟨_, rfl, (by (try simp only [he97.eq, true_and, and_true]) <;> omega), (by (try simp only [he97.eq, true_and, and_true]) <;> omega)⟩, rfl⟩)
      · refine Jz_iconst 1 dX7_stepY_93 (by decide) (fun y93 he93 => ?_)
        refine J_goto (tgt := 98) dX7_stepY_94 (by decide) ?_
        exact J_ret (r := some (.int _)) dX7_stepY_98 ⟨rfl, _, rfl, rfl⟩ (⟨⟨_, rfl, (by (try simp only [he93.eq, true_and, and_true]) <;> omega), (by (try simp only [he93.eq, true_and, and_true]) <;> omega)⟩, rfl⟩)
    · refine Jz_iconst 0 dX7_stepY_83 (by decide) (fun y83 he83 => ?_)
      refine J_goto (tgt := 98) dX7_stepY_84 (by decide) ?_
      exact J_ret (r := some (.int _)) dX7_stepY_98 ⟨rfl, _, rfl, rfl⟩ (⟨⟨_, rfl, (by (try simp only [he83.eq, true_and, and_true]) <;> omega), (by (try simp only [he83.eq, true_and, and_true]) <;> omega)⟩, rfl⟩)
  · refine J_tableOut (tgt := 99) dX7_stepY_1 (Or.inl hx1) (by decide) ?_
    refine J_iload_n dX7_stepY_99 rfl ?_
    refine Jz_iconst 1 dX7_stepY_100 (by decide) (fun y100 he100 => ?_)
    refine Jz_icmp_ne (tgt := 108) jEq.rf he100 dX7_stepY_101 (by decide) (fun c101 => ?_) (fun c101 => ?_)
    · refine J_iload_n dX7_stepY_108 rfl ?_
      refine Jz_iconst 4 dX7_stepY_109 (by decide) (fun y109 he109 => ?_)
      refine Jz_icmp_ne (tgt := 117) jEq.rf he109 dX7_stepY_110 (by decide) (fun c110 => ?_) (fun c110 => ?_)
      · refine Jz_iconst 0 dX7_stepY_117 (by decide) (fun y117 he117 => ?_)
        exact J_ret (r := some (.int _)) dX7_stepY_118 ⟨rfl, _, rfl, rfl⟩ (⟨⟨_, rfl, (by (try simp only [he117.eq, true_and, and_true]) <;> omega), (by (try simp only [he117.eq, true_and, and_true]) <;> omega)⟩, rfl⟩)
      · refine Jz_iconst (-1) dX7_stepY_113 (by decide) (fun y113 he113 => ?_)
        refine J_goto (tgt := 118) dX7_stepY_114 (by decide) ?_
        exact J_ret (r := some (.int _)) dX7_stepY_118 ⟨rfl, _, rfl, rfl⟩ (⟨⟨_, rfl, (by (try simp only [he113.eq, true_and, and_true]) <;> omega), (by (try simp only [he113.eq, true_and, and_true]) <;> omega)⟩, rfl⟩)
    · refine Jz_iconst 1 dX7_stepY_104 (by decide) (fun y104 he104 => ?_)
      refine J_goto (tgt := 118) dX7_stepY_105 (by decide) ?_
      exact J_ret (r := some (.int _)) dX7_stepY_118 ⟨rfl, _, rfl, rfl⟩ (⟨⟨_, rfl, (by (try simp only [he104.eq, true_and, and_true]) <;> omega), (by (try simp only [he104.eq, true_and, and_true]) <;> omega)⟩, rfl⟩)
  · refine J_tableOut (tgt := 99) dX7_stepY_1 (Or.inr hx1) (by decide) ?_
    refine J_iload_n dX7_stepY_99 rfl ?_
    refine Jz_iconst 1 dX7_stepY_100 (by decide) (fun y100 he100 => ?_)
    refine Jz_icmp_ne (tgt := 108) jEq.rf he100 dX7_stepY_101 (by decide) (fun c101 => ?_) (fun c101 => ?_)
    · refine J_iload_n dX7_stepY_108 rfl ?_
      refine Jz_iconst 4 dX7_stepY_109 (by decide) (fun y109 he109 => ?_)
      refine Jz_icmp_ne (tgt := 117) jEq.rf he109 dX7_stepY_110 (by decide) (fun c110 => ?_) (fun c110 => ?_)
      · refine Jz_iconst 0 dX7_stepY_117 (by decide) (fun y117 he117 => ?_)
        exact J_ret (r := some (.int _)) dX7_stepY_118 ⟨rfl, _, rfl, rfl⟩ (⟨⟨_, rfl, (by (try simp only [he117.eq, true_and, and_true]) <;> omega), (by (try simp only [he117.eq, true_and, and_true]) <;> omega)⟩, rfl⟩)
      · refine Jz_iconst (-1) dX7_stepY_113 (by decide) (fun y113 he113 => ?_)
        refine J_goto (tgt := 118) dX7_stepY_114 (by decide) ?_
        exact J_ret (r := some (.int _)) dX7_stepY_118 ⟨rfl, _, rfl, rfl⟩ (⟨⟨_, rfl, (by (try simp only [he113.eq, true_and, and_true]) <;> omega), (by (try simp only [he113.eq, true_and, and_true]) <;> omega)⟩, rfl⟩)
    · refine Jz_iconst 1 dX7_stepY_104 (by decide) (fun y104 he104 => ?_)
      refine J_goto (tgt := 118) dX7_stepY_105 (by decide) ?_
      exact J_ret (r := some (.int _)) dX7_stepY_118 ⟨rfl, _, rfl, rfl⟩ (⟨⟨_, rfl, (by (try simp only [he104.eq, true_and, and_true]) <;> omega), (by (try simp only [he104.eq, true_and, and_true]) <;> omega)⟩, rfl⟩)
set_option maxRecDepth 100000 in
set_option maxHeartbeats 8000000 in
theorem w_X7_axis {tS : jTS} (d : Nat) (V0 : jH) (x0 : Int32) (x1 : Int32) (hd : 0 ≤ d)   : jTot tS mX7_axis d [.int x0, .int x1] V0 0 0 (fun r V => (fun r _ => ∃ y : Int32, r = some (.int y) ∧ ((-2147483648) ≤ y.toInt) ∧ (y.toInt ≤ 2147483647)) r V ∧ V = V0) := by
  refine jTot.of_J [some (.int x0), some (.int x1), none, none, none] moX7_axis (Nat.le_of_ble_eq_true rfl) rfl ?_
  have hrx0 := j_rng x0
  have hrx1 := j_rng x1
  refine J_iload_n dX7_axis_0 rfl ?_
  refine Jz_iconst 2 dX7_axis_1 (by decide) (fun y1 he1 => ?_)
  refine Jz_idivw he1 dX7_axis_2 (by omega) (fun y2  => ?_)
  refine J_istore_n dX7_axis_3 rfl (by decide) ?_
  refine J_iload_n dX7_axis_4 rfl ?_
  refine Jz_if_ne (tgt := 10) jEq.rf dX7_axis_5 (by decide) (fun c5 => ?_) (fun c5 => ?_)
  · refine J_iload_n dX7_axis_10 rfl ?_
    refine Jz_if_ne (tgt := 18) jEq.rf dX7_axis_11 (by decide) (fun c11 => ?_) (fun c11 => ?_)
    · refine Jz_iconst 0 dX7_axis_18 (by decide) (fun y18 he18 => ?_)
      refine J_istore_n dX7_axis_19 rfl (by decide) ?_
      refine J_iload_n dX7_axis_20 rfl ?_
      refine Jz_iconst 2 dX7_axis_21 (by decide) (fun y21 he21 => ?_)
      refine Jz_icmp_ne (tgt := 29) jEq.rf he21 dX7_axis_22 (by decide) (fun c22 => ?_) (fun c22 => ?_)
      · refine Jz_iconst 2 dX7_axis_29 (by decide) (fun y29 he29 => ?_)
        refine J_istore dX7_axis_30 rfl (by decide) ?_
        refine J_iload_n dX7_axis_32 rfl ?_
        refine Jz_iconst 1 dX7_axis_33 (by decide) (fun y33 he33 => ?_)
        refine Jz_icmp_ne (tgt := 41) jEq.rf he33 dX7_axis_34 (by decide) (fun c34 => ?_) (fun c34 => ?_)
        · refine Jz_iconst 0 dX7_axis_41 (by decide) (fun y41 he41 => ?_)
          refine J_iload_n dX7_axis_42 rfl ?_
          refine Jz_iconst 2 dX7_axis_43 (by decide) (fun y43 he43 => ?_)
          refine Jz_iremw he43 dX7_axis_44 (by omega) (fun y44  => ?_)
          refine Jz_if_ne (tgt := 52) jEq.rf dX7_axis_45 (by decide) (fun c45 => ?_) (fun c45 => ?_)
          · refine Jz_iconst 0 dX7_axis_52 (by decide) (fun y52 he52 => ?_)
            refine Jz_icmp_ne (tgt := 60) he41 he52 dX7_axis_53 (by decide) (fun c53 => ?_) (fun c53 => ?_)
            · refine J_iload dX7_axis_60 rfl ?_
              exact J_ret (r := some (.int _)) dX7_axis_62 ⟨rfl, _, rfl, rfl⟩ (⟨⟨_, rfl, (j_rng _).1, (j_rng _).2⟩, rfl⟩)
            · refine J_iload_n dX7_axis_56 rfl ?_
              refine J_goto (tgt := 62) dX7_axis_57 (by decide) ?_
              exact J_ret (r := some (.int _)) dX7_axis_62 ⟨rfl, _, rfl, rfl⟩ (⟨⟨_, rfl, (j_rng _).1, (j_rng _).2⟩, rfl⟩)
          · refine Jz_iconst 1 dX7_axis_48 (by decide) (fun y48 he48 => ?_)
            refine J_goto (tgt := 53) dX7_axis_49 (by decide) ?_
            refine Jz_icmp_ne (tgt := 60) he41 he48 dX7_axis_53 (by decide) (fun c53 => ?_) (fun c53 => ?_)
            · refine J_iload dX7_axis_60 rfl ?_
              exact J_ret (r := some (.int _)) dX7_axis_62 ⟨rfl, _, rfl, rfl⟩ (⟨⟨_, rfl, (j_rng _).1, (j_rng _).2⟩, rfl⟩)
            · refine J_iload_n dX7_axis_56 rfl ?_
              refine J_goto (tgt := 62) dX7_axis_57 (by decide) ?_
              exact J_ret (r := some (.int _)) dX7_axis_62 ⟨rfl, _, rfl, rfl⟩ (⟨⟨_, rfl, (j_rng _).1, (j_rng _).2⟩, rfl⟩)
        · refine Jz_iconst 1 dX7_axis_37 (by decide) (fun y37 he37 => ?_)
          refine J_goto (tgt := 42) dX7_axis_38 (by decide) ?_
          refine J_iload_n dX7_axis_42 rfl ?_
          refine Jz_iconst 2 dX7_axis_43 (by decide) (fun y43 he43 => ?_)
          refine Jz_iremw he43 dX7_axis_44 (by omega) (fun y44  => ?_)
          refine Jz_if_ne (tgt := 52) jEq.rf dX7_axis_45 (by decide) (fun c45 => ?_) (fun c45 => ?_)
          · refine Jz_iconst 0 dX7_axis_52 (by decide) (fun y52 he52 => ?_)
            refine Jz_icmp_ne (tgt := 60) he37 he52 dX7_axis_53 (by decide) (fun c53 => ?_) (fun c53 => ?_)
            · refine J_iload dX7_axis_60 rfl ?_
              exact J_ret (r := some (.int _)) dX7_axis_62 ⟨rfl, _, rfl, rfl⟩ (⟨⟨_, rfl, (j_rng _).1, (j_rng _).2⟩, rfl⟩)
            · refine J_iload_n dX7_axis_56 rfl ?_
              refine J_goto (tgt := 62) dX7_axis_57 (by decide) ?_
              exact J_ret (r := some (.int _)) dX7_axis_62 ⟨rfl, _, rfl, rfl⟩ (⟨⟨_, rfl, (j_rng _).1, (j_rng _).2⟩, rfl⟩)
          · refine Jz_iconst 1 dX7_axis_48 (by decide) (fun y48 he48 => ?_)
            refine J_goto (tgt := 53) dX7_axis_49 (by decide) ?_
            refine Jz_icmp_ne (tgt := 60) he37 he48 dX7_axis_53 (by decide) (fun c53 => ?_) (fun c53 => ?_)
            · refine J_iload dX7_axis_60 rfl ?_
              exact J_ret (r := some (.int _)) dX7_axis_62 ⟨rfl, _, rfl, rfl⟩ (⟨⟨_, rfl, (j_rng _).1, (j_rng _).2⟩, rfl⟩)
            · refine J_iload_n dX7_axis_56 rfl ?_
              refine J_goto (tgt := 62) dX7_axis_57 (by decide) ?_
              exact J_ret (r := some (.int _)) dX7_axis_62 ⟨rfl, _, rfl, rfl⟩ (⟨⟨_, rfl, (j_rng _).1, (j_rng _).2⟩, rfl⟩)
      · refine Jz_iconst 1 dX7_axis_25 (by decide) (fun y25 he25 => ?_)
        refine J_goto (tgt := 30) dX7_axis_26 (by decide) ?_
        refine J_istore dX7_axis_30 rfl (by decide) ?_
        refine J_iload_n dX7_axis_32 rfl ?_
        refine Jz_iconst 1 dX7_axis_33 (by decide) (fun y33 he33 => ?_)
        refine Jz_icmp_ne (tgt := 41) jEq.rf he33 dX7_axis_34 (by decide) (fun c34 => ?_) (fun c34 => ?_)
        · refine Jz_iconst 0 dX7_axis_41 (by decide) (fun y41 he41 => ?_)
          refine J_iload_n dX7_axis_42 rfl ?_
          refine Jz_iconst 2 dX7_axis_43 (by decide) (fun y43 he43 => ?_)
          refine Jz_iremw he43 dX7_axis_44 (by omega) (fun y44  => ?_)
          refine Jz_if_ne (tgt := 52) jEq.rf dX7_axis_45 (by decide) (fun c45 => ?_) (fun c45 => ?_)
          · refine Jz_iconst 0 dX7_axis_52 (by decide) (fun y52 he52 => ?_)
            refine Jz_icmp_ne (tgt := 60) he41 he52 dX7_axis_53 (by decide) (fun c53 => ?_) (fun c53 => ?_)
            · refine J_iload dX7_axis_60 rfl ?_
              exact J_ret (r := some (.int _)) dX7_axis_62 ⟨rfl, _, rfl, rfl⟩ (⟨⟨_, rfl, (j_rng _).1, (j_rng _).2⟩, rfl⟩)
            · refine J_iload_n dX7_axis_56 rfl ?_
              refine J_goto (tgt := 62) dX7_axis_57 (by decide) ?_
              exact J_ret (r := some (.int _)) dX7_axis_62 ⟨rfl, _, rfl, rfl⟩ (⟨⟨_, rfl, (j_rng _).1, (j_rng _).2⟩, rfl⟩)
          · refine Jz_iconst 1 dX7_axis_48 (by decide) (fun y48 he48 => ?_)
            refine J_goto (tgt := 53) dX7_axis_49 (by decide) ?_
            refine Jz_icmp_ne (tgt := 60) he41 he48 dX7_axis_53 (by decide) (fun c53 => ?_) (fun c53 => ?_)
            · refine J_iload dX7_axis_60 rfl ?_
              exact J_ret (r := some (.int _)) dX7_axis_62 ⟨rfl, _, rfl, rfl⟩ (⟨⟨_, rfl, (j_rng _).1, (j_rng _).2⟩, rfl⟩)
            · refine J_iload_n dX7_axis_56 rfl ?_
              refine J_goto (tgt := 62) dX7_axis_57 (by decide) ?_
              exact J_ret (r := some (.int _)) dX7_axis_62 ⟨rfl, _, rfl, rfl⟩ (⟨⟨_, rfl, (j_rng _).1, (j_rng _).2⟩, rfl⟩)
        · refine Jz_iconst 1 dX7_axis_37 (by decide) (fun y37 he37 => ?_)
          refine J_goto (tgt := 42) dX7_axis_38 (by decide) ?_
          refine J_iload_n dX7_axis_42 rfl ?_
          refine Jz_iconst 2 dX7_axis_43 (by decide) (fun y43 he43 => ?_)
          refine Jz_iremw he43 dX7_axis_44 (by omega) (fun y44  => ?_)
          refine Jz_if_ne (tgt := 52) jEq.rf dX7_axis_45 (by decide) (fun c45 => ?_) (fun c45 => ?_)
          · refine Jz_iconst 0 dX7_axis_52 (by decide) (fun y52 he52 => ?_)
            refine Jz_icmp_ne (tgt := 60) he37 he52 dX7_axis_53 (by decide) (fun c53 => ?_) (fun c53 => ?_)
            · refine J_iload dX7_axis_60 rfl ?_
              exact J_ret (r := some (.int _)) dX7_axis_62 ⟨rfl, _, rfl, rfl⟩ (⟨⟨_, rfl, (j_rng _).1, (j_rng _).2⟩, rfl⟩)
            · refine J_iload_n dX7_axis_56 rfl ?_
              refine J_goto (tgt := 62) dX7_axis_57 (by decide) ?_
              exact J_ret (r := some (.int _)) dX7_axis_62 ⟨rfl, _, rfl, rfl⟩ (⟨⟨_, rfl, (j_rng _).1, (j_rng _).2⟩, rfl⟩)
          · refine Jz_iconst 1 dX7_axis_48 (by decide) (fun y48 he48 => ?_)
            refine J_goto (tgt := 53) dX7_axis_49 (by decide) ?_
            refine Jz_icmp_ne (tgt := 60) he37 he48 dX7_axis_53 (by decide) (fun c53 => ?_) (fun c53 => ?_)
            · refine J_iload dX7_axis_60 rfl ?_
              exact J_ret (r := some (.int _)) dX7_axis_62 ⟨rfl, _, rfl, rfl⟩ (⟨⟨_, rfl, (j_rng _).1, (j_rng _).2⟩, rfl⟩)
            · refine J_iload_n dX7_axis_56 rfl ?_
              refine J_goto (tgt := 62) dX7_axis_57 (by decide) ?_
              exact J_ret (r := some (.int _)) dX7_axis_62 ⟨rfl, _, rfl, rfl⟩ (⟨⟨_, rfl, (j_rng _).1, (j_rng _).2⟩, rfl⟩)
    · refine Jz_iconst 1 dX7_axis_14 (by decide) (fun y14 he14 => ?_)
      refine J_goto (tgt := 19) dX7_axis_15 (by decide) ?_
      refine J_istore_n dX7_axis_19 rfl (by decide) ?_
      refine J_iload_n dX7_axis_20 rfl ?_
      refine Jz_iconst 2 dX7_axis_21 (by decide) (fun y21 he21 => ?_)
      refine Jz_icmp_ne (tgt := 29) jEq.rf he21 dX7_axis_22 (by decide) (fun c22 => ?_) (fun c22 => ?_)
      · refine Jz_iconst 2 dX7_axis_29 (by decide) (fun y29 he29 => ?_)
        refine J_istore dX7_axis_30 rfl (by decide) ?_
        refine J_iload_n dX7_axis_32 rfl ?_
        refine Jz_iconst 1 dX7_axis_33 (by decide) (fun y33 he33 => ?_)
        refine Jz_icmp_ne (tgt := 41) jEq.rf he33 dX7_axis_34 (by decide) (fun c34 => ?_) (fun c34 => ?_)
        · refine Jz_iconst 0 dX7_axis_41 (by decide) (fun y41 he41 => ?_)
          refine J_iload_n dX7_axis_42 rfl ?_
          refine Jz_iconst 2 dX7_axis_43 (by decide) (fun y43 he43 => ?_)
          refine Jz_iremw he43 dX7_axis_44 (by omega) (fun y44  => ?_)
          refine Jz_if_ne (tgt := 52) jEq.rf dX7_axis_45 (by decide) (fun c45 => ?_) (fun c45 => ?_)
          · refine Jz_iconst 0 dX7_axis_52 (by decide) (fun y52 he52 => ?_)
            refine Jz_icmp_ne (tgt := 60) he41 he52 dX7_axis_53 (by decide) (fun c53 => ?_) (fun c53 => ?_)
            · refine J_iload dX7_axis_60 rfl ?_
              exact J_ret (r := some (.int _)) dX7_axis_62 ⟨rfl, _, rfl, rfl⟩ (⟨⟨_, rfl, (j_rng _).1, (j_rng _).2⟩, rfl⟩)
            · refine J_iload_n dX7_axis_56 rfl ?_
              refine J_goto (tgt := 62) dX7_axis_57 (by decide) ?_
              exact J_ret (r := some (.int _)) dX7_axis_62 ⟨rfl, _, rfl, rfl⟩ (⟨⟨_, rfl, (j_rng _).1, (j_rng _).2⟩, rfl⟩)
          · refine Jz_iconst 1 dX7_axis_48 (by decide) (fun y48 he48 => ?_)
            refine J_goto (tgt := 53) dX7_axis_49 (by decide) ?_
            refine Jz_icmp_ne (tgt := 60) he41 he48 dX7_axis_53 (by decide) (fun c53 => ?_) (fun c53 => ?_)
            · refine J_iload dX7_axis_60 rfl ?_
              exact J_ret (r := some (.int _)) dX7_axis_62 ⟨rfl, _, rfl, rfl⟩ (⟨⟨_, rfl, (j_rng _).1, (j_rng _).2⟩, rfl⟩)
            · refine J_iload_n dX7_axis_56 rfl ?_
              refine J_goto (tgt := 62) dX7_axis_57 (by decide) ?_
              exact J_ret (r := some (.int _)) dX7_axis_62 ⟨rfl, _, rfl, rfl⟩ (⟨⟨_, rfl, (j_rng _).1, (j_rng _).2⟩, rfl⟩)
        · refine Jz_iconst 1 dX7_axis_37 (by decide) (fun y37 he37 => ?_)
          refine J_goto (tgt := 42) dX7_axis_38 (by decide) ?_
          refine J_iload_n dX7_axis_42 rfl ?_
          refine Jz_iconst 2 dX7_axis_43 (by decide) (fun y43 he43 => ?_)
          refine Jz_iremw he43 dX7_axis_44 (by omega) (fun y44  => ?_)
          refine Jz_if_ne (tgt := 52) jEq.rf dX7_axis_45 (by decide) (fun c45 => ?_) (fun c45 => ?_)
          · refine Jz_iconst 0 dX7_axis_52 (by decide) (fun y52 he52 => ?_)
            refine Jz_icmp_ne (tgt := 60) he37 he52 dX7_axis_53 (by decide) (fun c53 => ?_) (fun c53 => ?_)
            · refine J_iload dX7_axis_60 rfl ?_
              exact J_ret (r := some (.int _)) dX7_axis_62 ⟨rfl, _, rfl, rfl⟩ (⟨⟨_, rfl, (j_rng _).1, (j_rng _).2⟩, rfl⟩)
            · refine J_iload_n dX7_axis_56 rfl ?_
              refine J_goto (tgt := 62) dX7_axis_57 (by decide) ?_
              exact J_ret (r := some (.int _)) dX7_axis_62 ⟨rfl, _, rfl, rfl⟩ (⟨⟨_, rfl, (j_rng _).1, (j_rng _).2⟩, rfl⟩)
          · refine Jz_iconst 1 dX7_axis_48 (by decide) (fun y48 he48 => ?_)
            refine J_goto (tgt := 53) dX7_axis_49 (by decide) ?_
            refine Jz_icmp_ne (tgt := 60) he37 he48 dX7_axis_53 (by decide) (fun c53 => ?_) (fun c53 => ?_)
            · refine J_iload dX7_axis_60 rfl ?_
              exact J_ret (r := some (.int _)) dX7_axis_62 ⟨rfl, _, rfl, rfl⟩ (⟨⟨_, rfl, (j_rng _).1, (j_rng _).2⟩, rfl⟩)
            · refine J_iload_n dX7_axis_56 rfl ?_
              refine J_goto (tgt := 62) dX7_axis_57 (by decide) ?_
              exact J_ret (r := some (.int _)) dX7_axis_62 ⟨rfl, _, rfl, rfl⟩ (⟨⟨_, rfl, (j_rng _).1, (j_rng _).2⟩, rfl⟩)
      · refine Jz_iconst 1 dX7_axis_25 (by decide) (fun y25 he25 => ?_)
        refine J_goto (tgt := 30) dX7_axis_26 (by decide) ?_
        refine J_istore dX7_axis_30 rfl (by decide) ?_
        refine J_iload_n dX7_axis_32 rfl ?_
        refine Jz_iconst 1 dX7_axis_33 (by decide) (fun y33 he33 => ?_)
        refine Jz_icmp_ne (tgt := 41) jEq.rf he33 dX7_axis_34 (by decide) (fun c34 => ?_) (fun c34 => ?_)
        · refine Jz_iconst 0 dX7_axis_41 (by decide) (fun y41 he41 => ?_)
          refine J_iload_n dX7_axis_42 rfl ?_
          refine Jz_iconst 2 dX7_axis_43 (by decide) (fun y43 he43 => ?_)
          refine Jz_iremw he43 dX7_axis_44 (by omega) (fun y44  => ?_)
          refine Jz_if_ne (tgt := 52) jEq.rf dX7_axis_45 (by decide) (fun c45 => ?_) (fun c45 => ?_)
          · refine Jz_iconst 0 dX7_axis_52 (by decide) (fun y52 he52 => ?_)
            refine Jz_icmp_ne (tgt := 60) he41 he52 dX7_axis_53 (by decide) (fun c53 => ?_) (fun c53 => ?_)
            · refine J_iload dX7_axis_60 rfl ?_
              exact J_ret (r := some (.int _)) dX7_axis_62 ⟨rfl, _, rfl, rfl⟩ (⟨⟨_, rfl, (j_rng _).1, (j_rng _).2⟩, rfl⟩)
            · refine J_iload_n dX7_axis_56 rfl ?_
              refine J_goto (tgt := 62) dX7_axis_57 (by decide) ?_
              exact J_ret (r := some (.int _)) dX7_axis_62 ⟨rfl, _, rfl, rfl⟩ (⟨⟨_, rfl, (j_rng _).1, (j_rng _).2⟩, rfl⟩)
          · refine Jz_iconst 1 dX7_axis_48 (by decide) (fun y48 he48 => ?_)
            refine J_goto (tgt := 53) dX7_axis_49 (by decide) ?_
            refine Jz_icmp_ne (tgt := 60) he41 he48 dX7_axis_53 (by decide) (fun c53 => ?_) (fun c53 => ?_)
            · refine J_iload dX7_axis_60 rfl ?_
              exact J_ret (r := some (.int _)) dX7_axis_62 ⟨rfl, _, rfl, rfl⟩ (⟨⟨_, rfl, (j_rng _).1, (j_rng _).2⟩, rfl⟩)
            · refine J_iload_n dX7_axis_56 rfl ?_
              refine J_goto (tgt := 62) dX7_axis_57 (by decide) ?_
              exact J_ret (r := some (.int _)) dX7_axis_62 ⟨rfl, _, rfl, rfl⟩ (⟨⟨_, rfl, (j_rng _).1, (j_rng _).2⟩, rfl⟩)
        · refine Jz_iconst 1 dX7_axis_37 (by decide) (fun y37 he37 => ?_)
          refine J_goto (tgt := 42) dX7_axis_38 (by decide) ?_
          refine J_iload_n dX7_axis_42 rfl ?_
          refine Jz_iconst 2 dX7_axis_43 (by decide) (fun y43 he43 => ?_)
          refine Jz_iremw he43 dX7_axis_44 (by omega) (fun y44  => ?_)
          refine Jz_if_ne (tgt := 52) jEq.rf dX7_axis_45 (by decide) (fun c45 => ?_) (fun c45 => ?_)
          · refine Jz_iconst 0 dX7_axis_52 (by decide) (fun y52 he52 => ?_)
            refine Jz_icmp_ne (tgt := 60) he37 he52 dX7_axis_53 (by decide) (fun c53 => ?_) (fun c53 => ?_)
            · refine J_iload dX7_axis_60 rfl ?_
              exact J_ret (r := some (.int _)) dX7_axis_62 ⟨rfl, _, rfl, rfl⟩ (⟨⟨_, rfl, (j_rng _).1, (j_rng _).2⟩, rfl⟩)
            · refine J_iload_n dX7_axis_56 rfl ?_
              refine J_goto (tgt := 62) dX7_axis_57 (by decide) ?_
              exact J_ret (r := some (.int _)) dX7_axis_62 ⟨rfl, _, rfl, rfl⟩ (⟨⟨_, rfl, (j_rng _).1, (j_rng _).2⟩, rfl⟩)
          · refine Jz_iconst 1 dX7_axis_48 (by decide) (fun y48 he48 => ?_)
            refine J_goto (tgt := 53) dX7_axis_49 (by decide) ?_
            refine Jz_icmp_ne (tgt := 60) he37 he48 dX7_axis_53 (by decide) (fun c53 => ?_) (fun c53 => ?_)
            · refine J_iload dX7_axis_60 rfl ?_
              exact J_ret (r := some (.int _)) dX7_axis_62 ⟨rfl, _, rfl, rfl⟩ (⟨⟨_, rfl, (j_rng _).1, (j_rng _).2⟩, rfl⟩)
            · refine J_iload_n dX7_axis_56 rfl ?_
              refine J_goto (tgt := 62) dX7_axis_57 (by decide) ?_
              exact J_ret (r := some (.int _)) dX7_axis_62 ⟨rfl, _, rfl, rfl⟩ (⟨⟨_, rfl, (j_rng _).1, (j_rng _).2⟩, rfl⟩)
  · refine J_iload_n dX7_axis_8 rfl ?_
    exact J_ret (r := some (.int _)) dX7_axis_9 ⟨rfl, _, rfl, rfl⟩ (⟨⟨_, rfl, (j_rng _).1, (j_rng _).2⟩, rfl⟩)
set_option maxRecDepth 100000 in
set_option maxHeartbeats 8000000 in
theorem w_X7_turned {tS : jTS} (d : Nat) (V0 : jH) (x0 : Int32) (x1 : Int32) (x2 : Int32) (hd : 1 ≤ d)   : jTot tS mX7_turned d [.int x0, .int x1, .int x2] V0 0 0 (fun r V => (fun r _ => ∃ y : Int32, r = some (.int y) ∧ ((-2147483648) ≤ y.toInt) ∧ (y.toInt ≤ 2147483647)) r V ∧ V = V0) := by
  refine jTot.of_J [some (.int x0), some (.int x1), some (.int x2), none, none] moX7_turned (Nat.le_of_ble_eq_true rfl) rfl ?_
  have hrx0 := j_rng x0
  have hrx1 := j_rng x1
  have hrx2 := j_rng x2
  refine J_iload_n dX7_turned_0 rfl ?_
  refine Jz_if_ne (tgt := 23) jEq.rf dX7_turned_1 (by decide) (fun c1 => ?_) (fun c1 => ?_)
  · refine J_iload_n dX7_turned_23 rfl ?_
    refine Jz_iconst 1 dX7_turned_24 (by decide) (fun y24 he24 => ?_)
    refine Jz_icmp_ne (tgt := 50) jEq.rf he24 dX7_turned_25 (by decide) (fun c25 => ?_) (fun c25 => ?_)
    · refine J_iload_n dX7_turned_50 rfl ?_
      refine Jz_iconst 3 dX7_turned_51 (by decide) (fun y51 he51 => ?_)
      refine Jz_iremw he51 dX7_turned_52 (by omega) (fun y52  => ?_)
      refine J_istore_n dX7_turned_53 rfl (by decide) ?_
      refine J_iload_n dX7_turned_54 rfl ?_
      refine Jz_iconst 2 dX7_turned_55 (by decide) (fun y55 he55 => ?_)
      refine Jz_icmp_le (tgt := 63) jEq.rf he55 dX7_turned_56 (by decide) (fun c56 => ?_) (fun c56 => ?_)
      · refine Jz_iconst 0 dX7_turned_63 (by decide) (fun y63 he63 => ?_)
        refine J_iload_n dX7_turned_64 rfl ?_
        refine Jz_bipush 8 dX7_turned_65 (by decide) (fun y65 he65 => ?_)
        refine Jz_iremw he65 dX7_turned_67 (by omega) (fun y67  => ?_)
        refine J_iload_n dX7_turned_68 rfl ?_
        refine Jz_ishrw dX7_turned_69 (fun y69  => ?_)
        refine Jz_iconst 1 dX7_turned_70 (by decide) (fun y70 he70 => ?_)
        refine Jz_iandw dX7_turned_71 (fun y71  => ?_)
        refine Jz_iconst 1 dX7_turned_72 (by decide) (fun y72 he72 => ?_)
        refine Jz_icmp_ne (tgt := 80) jEq.rf he72 dX7_turned_73 (by decide) (fun c73 => ?_) (fun c73 => ?_)
        · refine Jz_iconst 0 dX7_turned_80 (by decide) (fun y80 he80 => ?_)
          refine Jz_icmp_eq (tgt := 88) he63 he80 dX7_turned_81 (by decide) (fun c81 => ?_) (fun c81 => ?_)
          · refine Jz_iconst 0 dX7_turned_88 (by decide) (fun y88 he88 => ?_)
            refine J_istore dX7_turned_89 rfl (by decide) ?_
            refine J_iload_n dX7_turned_91 rfl ?_
            refine Jz_bipush 8 dX7_turned_92 (by decide) (fun y92 he92 => ?_)
            refine Jz_idivw he92 dX7_turned_94 (by omega) (fun y94  => ?_)
            refine J_iload_n dX7_turned_95 rfl ?_
            refine J_callS2 moX7_axis jw_ml_X7_98 jw_st_X7_axis dX7_turned_96 (w_X7_axis (d - 1) _ y94 y52 (by omega)   ) (by omega) (Nat.zero_le _) (Nat.zero_le _) (Nat.le_of_ble_eq_true rfl) (fun r96 V96 h96 => ?_)
            obtain ⟨⟨y96, rfl, hl96, hh96⟩, hE96⟩ := h96
            have hE96 := hE96.symm
            subst hE96
            clear hl96 hh96
            refine J_iload dX7_turned_99 rfl ?_
            refine Jz_if_eq (tgt := 108) he88 dX7_turned_101 (by decide) (fun c101 => ?_) (fun c101 => ?_)
            · refine Jz_iconst 0 dX7_turned_108 (by decide) (fun y108 he108 => ?_)
              refine Jz_iaddw dX7_turned_109 (fun y109  => ?_)
              exact J_ret (r := some (.int _)) dX7_turned_110 ⟨rfl, _, rfl, rfl⟩ (⟨⟨_, rfl, (j_rng _).1, (j_rng _).2⟩, rfl⟩)
            · refine Jz_iconst 3 dX7_turned_104 (by decide) (fun y104 he104 => ?_)
              refine J_goto (tgt := 109) dX7_turned_105 (by decide) ?_
              refine Jz_iaddw dX7_turned_109 (fun y109  => ?_)
              exact J_ret (r := some (.int _)) dX7_turned_110 ⟨rfl, _, rfl, rfl⟩ (⟨⟨_, rfl, (j_rng _).1, (j_rng _).2⟩, rfl⟩)
          · refine Jz_iconst 1 dX7_turned_84 (by decide) (fun y84 he84 => ?_)
            refine J_goto (tgt := 89) dX7_turned_85 (by decide) ?_
            refine J_istore dX7_turned_89 rfl (by decide) ?_
            refine J_iload_n dX7_turned_91 rfl ?_
            refine Jz_bipush 8 dX7_turned_92 (by decide) (fun y92 he92 => ?_)
            refine Jz_idivw he92 dX7_turned_94 (by omega) (fun y94  => ?_)
            refine J_iload_n dX7_turned_95 rfl ?_
            refine J_callS2 moX7_axis jw_ml_X7_98 jw_st_X7_axis dX7_turned_96 (w_X7_axis (d - 1) _ y94 y52 (by omega)   ) (by omega) (Nat.zero_le _) (Nat.zero_le _) (Nat.le_of_ble_eq_true rfl) (fun r96 V96 h96 => ?_)
            obtain ⟨⟨y96, rfl, hl96, hh96⟩, hE96⟩ := h96
            have hE96 := hE96.symm
            subst hE96
            clear hl96 hh96
            refine J_iload dX7_turned_99 rfl ?_
            refine Jz_if_eq (tgt := 108) he84 dX7_turned_101 (by decide) (fun c101 => ?_) (fun c101 => ?_)
            · refine Jz_iconst 0 dX7_turned_108 (by decide) (fun y108 he108 => ?_)
              refine Jz_iaddw dX7_turned_109 (fun y109  => ?_)
              exact J_ret (r := some (.int _)) dX7_turned_110 ⟨rfl, _, rfl, rfl⟩ (⟨⟨_, rfl, (j_rng _).1, (j_rng _).2⟩, rfl⟩)
            · refine Jz_iconst 3 dX7_turned_104 (by decide) (fun y104 he104 => ?_)
              refine J_goto (tgt := 109) dX7_turned_105 (by decide) ?_
              refine Jz_iaddw dX7_turned_109 (fun y109  => ?_)
              exact J_ret (r := some (.int _)) dX7_turned_110 ⟨rfl, _, rfl, rfl⟩ (⟨⟨_, rfl, (j_rng _).1, (j_rng _).2⟩, rfl⟩)
        · refine Jz_iconst 1 dX7_turned_76 (by decide) (fun y76 he76 => ?_)
          refine J_goto (tgt := 81) dX7_turned_77 (by decide) ?_
          refine Jz_icmp_eq (tgt := 88) he63 he76 dX7_turned_81 (by decide) (fun c81 => ?_) (fun c81 => ?_)
          · refine Jz_iconst 0 dX7_turned_88 (by decide) (fun y88 he88 => ?_)
            refine J_istore dX7_turned_89 rfl (by decide) ?_
            refine J_iload_n dX7_turned_91 rfl ?_
            refine Jz_bipush 8 dX7_turned_92 (by decide) (fun y92 he92 => ?_)
            refine Jz_idivw he92 dX7_turned_94 (by omega) (fun y94  => ?_)
            refine J_iload_n dX7_turned_95 rfl ?_
            refine J_callS2 moX7_axis jw_ml_X7_98 jw_st_X7_axis dX7_turned_96 (w_X7_axis (d - 1) _ y94 y52 (by omega)   ) (by omega) (Nat.zero_le _) (Nat.zero_le _) (Nat.le_of_ble_eq_true rfl) (fun r96 V96 h96 => ?_)
            obtain ⟨⟨y96, rfl, hl96, hh96⟩, hE96⟩ := h96
            have hE96 := hE96.symm
            subst hE96
            clear hl96 hh96
            refine J_iload dX7_turned_99 rfl ?_
            refine Jz_if_eq (tgt := 108) he88 dX7_turned_101 (by decide) (fun c101 => ?_) (fun c101 => ?_)
            · refine Jz_iconst 0 dX7_turned_108 (by decide) (fun y108 he108 => ?_)
              refine Jz_iaddw dX7_turned_109 (fun y109  => ?_)
              exact J_ret (r := some (.int _)) dX7_turned_110 ⟨rfl, _, rfl, rfl⟩ (⟨⟨_, rfl, (j_rng _).1, (j_rng _).2⟩, rfl⟩)
            · refine Jz_iconst 3 dX7_turned_104 (by decide) (fun y104 he104 => ?_)
              refine J_goto (tgt := 109) dX7_turned_105 (by decide) ?_
              refine Jz_iaddw dX7_turned_109 (fun y109  => ?_)
              exact J_ret (r := some (.int _)) dX7_turned_110 ⟨rfl, _, rfl, rfl⟩ (⟨⟨_, rfl, (j_rng _).1, (j_rng _).2⟩, rfl⟩)
          · refine Jz_iconst 1 dX7_turned_84 (by decide) (fun y84 he84 => ?_)
            refine J_goto (tgt := 89) dX7_turned_85 (by decide) ?_
            refine J_istore dX7_turned_89 rfl (by decide) ?_
            refine J_iload_n dX7_turned_91 rfl ?_
            refine Jz_bipush 8 dX7_turned_92 (by decide) (fun y92 he92 => ?_)
            refine Jz_idivw he92 dX7_turned_94 (by omega) (fun y94  => ?_)
            refine J_iload_n dX7_turned_95 rfl ?_
            refine J_callS2 moX7_axis jw_ml_X7_98 jw_st_X7_axis dX7_turned_96 (w_X7_axis (d - 1) _ y94 y52 (by omega)   ) (by omega) (Nat.zero_le _) (Nat.zero_le _) (Nat.le_of_ble_eq_true rfl) (fun r96 V96 h96 => ?_)
            obtain ⟨⟨y96, rfl, hl96, hh96⟩, hE96⟩ := h96
            have hE96 := hE96.symm
            subst hE96
            clear hl96 hh96
            refine J_iload dX7_turned_99 rfl ?_
            refine Jz_if_eq (tgt := 108) he84 dX7_turned_101 (by decide) (fun c101 => ?_) (fun c101 => ?_)
            · refine Jz_iconst 0 dX7_turned_108 (by decide) (fun y108 he108 => ?_)
              refine Jz_iaddw dX7_turned_109 (fun y109  => ?_)
              exact J_ret (r := some (.int _)) dX7_turned_110 ⟨rfl, _, rfl, rfl⟩ (⟨⟨_, rfl, (j_rng _).1, (j_rng _).2⟩, rfl⟩)
            · refine Jz_iconst 3 dX7_turned_104 (by decide) (fun y104 he104 => ?_)
              refine J_goto (tgt := 109) dX7_turned_105 (by decide) ?_
              refine Jz_iaddw dX7_turned_109 (fun y109  => ?_)
              exact J_ret (r := some (.int _)) dX7_turned_110 ⟨rfl, _, rfl, rfl⟩ (⟨⟨_, rfl, (j_rng _).1, (j_rng _).2⟩, rfl⟩)
      · refine Jz_iconst 1 dX7_turned_59 (by decide) (fun y59 he59 => ?_)
        refine J_goto (tgt := 64) dX7_turned_60 (by decide) ?_
        refine J_iload_n dX7_turned_64 rfl ?_
        refine Jz_bipush 8 dX7_turned_65 (by decide) (fun y65 he65 => ?_)
        refine Jz_iremw he65 dX7_turned_67 (by omega) (fun y67  => ?_)
        refine J_iload_n dX7_turned_68 rfl ?_
        refine Jz_ishrw dX7_turned_69 (fun y69  => ?_)
        refine Jz_iconst 1 dX7_turned_70 (by decide) (fun y70 he70 => ?_)
        refine Jz_iandw dX7_turned_71 (fun y71  => ?_)
        refine Jz_iconst 1 dX7_turned_72 (by decide) (fun y72 he72 => ?_)
        refine Jz_icmp_ne (tgt := 80) jEq.rf he72 dX7_turned_73 (by decide) (fun c73 => ?_) (fun c73 => ?_)
        · refine Jz_iconst 0 dX7_turned_80 (by decide) (fun y80 he80 => ?_)
          refine Jz_icmp_eq (tgt := 88) he59 he80 dX7_turned_81 (by decide) (fun c81 => ?_) (fun c81 => ?_)
          · refine Jz_iconst 0 dX7_turned_88 (by decide) (fun y88 he88 => ?_)
            refine J_istore dX7_turned_89 rfl (by decide) ?_
            refine J_iload_n dX7_turned_91 rfl ?_
            refine Jz_bipush 8 dX7_turned_92 (by decide) (fun y92 he92 => ?_)
            refine Jz_idivw he92 dX7_turned_94 (by omega) (fun y94  => ?_)
            refine J_iload_n dX7_turned_95 rfl ?_
            refine J_callS2 moX7_axis jw_ml_X7_98 jw_st_X7_axis dX7_turned_96 (w_X7_axis (d - 1) _ y94 y52 (by omega)   ) (by omega) (Nat.zero_le _) (Nat.zero_le _) (Nat.le_of_ble_eq_true rfl) (fun r96 V96 h96 => ?_)
            obtain ⟨⟨y96, rfl, hl96, hh96⟩, hE96⟩ := h96
            have hE96 := hE96.symm
            subst hE96
            clear hl96 hh96
            refine J_iload dX7_turned_99 rfl ?_
            refine Jz_if_eq (tgt := 108) he88 dX7_turned_101 (by decide) (fun c101 => ?_) (fun c101 => ?_)
            · refine Jz_iconst 0 dX7_turned_108 (by decide) (fun y108 he108 => ?_)
              refine Jz_iaddw dX7_turned_109 (fun y109  => ?_)
              exact J_ret (r := some (.int _)) dX7_turned_110 ⟨rfl, _, rfl, rfl⟩ (⟨⟨_, rfl, (j_rng _).1, (j_rng _).2⟩, rfl⟩)
            · refine Jz_iconst 3 dX7_turned_104 (by decide) (fun y104 he104 => ?_)
              refine J_goto (tgt := 109) dX7_turned_105 (by decide) ?_
              refine Jz_iaddw dX7_turned_109 (fun y109  => ?_)
              exact J_ret (r := some (.int _)) dX7_turned_110 ⟨rfl, _, rfl, rfl⟩ (⟨⟨_, rfl, (j_rng _).1, (j_rng _).2⟩, rfl⟩)
          · refine Jz_iconst 1 dX7_turned_84 (by decide) (fun y84 he84 => ?_)
            refine J_goto (tgt := 89) dX7_turned_85 (by decide) ?_
            refine J_istore dX7_turned_89 rfl (by decide) ?_
            refine J_iload_n dX7_turned_91 rfl ?_
            refine Jz_bipush 8 dX7_turned_92 (by decide) (fun y92 he92 => ?_)
            refine Jz_idivw he92 dX7_turned_94 (by omega) (fun y94  => ?_)
            refine J_iload_n dX7_turned_95 rfl ?_
            refine J_callS2 moX7_axis jw_ml_X7_98 jw_st_X7_axis dX7_turned_96 (w_X7_axis (d - 1) _ y94 y52 (by omega)   ) (by omega) (Nat.zero_le _) (Nat.zero_le _) (Nat.le_of_ble_eq_true rfl) (fun r96 V96 h96 => ?_)
            obtain ⟨⟨y96, rfl, hl96, hh96⟩, hE96⟩ := h96
            have hE96 := hE96.symm
            subst hE96
            clear hl96 hh96
            refine J_iload dX7_turned_99 rfl ?_
            refine Jz_if_eq (tgt := 108) he84 dX7_turned_101 (by decide) (fun c101 => ?_) (fun c101 => ?_)
            · refine Jz_iconst 0 dX7_turned_108 (by decide) (fun y108 he108 => ?_)
              refine Jz_iaddw dX7_turned_109 (fun y109  => ?_)
              exact J_ret (r := some (.int _)) dX7_turned_110 ⟨rfl, _, rfl, rfl⟩ (⟨⟨_, rfl, (j_rng _).1, (j_rng _).2⟩, rfl⟩)
            · refine Jz_iconst 3 dX7_turned_104 (by decide) (fun y104 he104 => ?_)
              refine J_goto (tgt := 109) dX7_turned_105 (by decide) ?_
              refine Jz_iaddw dX7_turned_109 (fun y109  => ?_)
              exact J_ret (r := some (.int _)) dX7_turned_110 ⟨rfl, _, rfl, rfl⟩ (⟨⟨_, rfl, (j_rng _).1, (j_rng _).2⟩, rfl⟩)
        · refine Jz_iconst 1 dX7_turned_76 (by decide) (fun y76 he76 => ?_)
          refine J_goto (tgt := 81) dX7_turned_77 (by decide) ?_
          refine Jz_icmp_eq (tgt := 88) he59 he76 dX7_turned_81 (by decide) (fun c81 => ?_) (fun c81 => ?_)
          · refine Jz_iconst 0 dX7_turned_88 (by decide) (fun y88 he88 => ?_)
            refine J_istore dX7_turned_89 rfl (by decide) ?_
            refine J_iload_n dX7_turned_91 rfl ?_
            refine Jz_bipush 8 dX7_turned_92 (by decide) (fun y92 he92 => ?_)
            refine Jz_idivw he92 dX7_turned_94 (by omega) (fun y94  => ?_)
            refine J_iload_n dX7_turned_95 rfl ?_
            refine J_callS2 moX7_axis jw_ml_X7_98 jw_st_X7_axis dX7_turned_96 (w_X7_axis (d - 1) _ y94 y52 (by omega)   ) (by omega) (Nat.zero_le _) (Nat.zero_le _) (Nat.le_of_ble_eq_true rfl) (fun r96 V96 h96 => ?_)
            obtain ⟨⟨y96, rfl, hl96, hh96⟩, hE96⟩ := h96
            have hE96 := hE96.symm
            subst hE96
            clear hl96 hh96
            refine J_iload dX7_turned_99 rfl ?_
            refine Jz_if_eq (tgt := 108) he88 dX7_turned_101 (by decide) (fun c101 => ?_) (fun c101 => ?_)
            · refine Jz_iconst 0 dX7_turned_108 (by decide) (fun y108 he108 => ?_)
              refine Jz_iaddw dX7_turned_109 (fun y109  => ?_)
              exact J_ret (r := some (.int _)) dX7_turned_110 ⟨rfl, _, rfl, rfl⟩ (⟨⟨_, rfl, (j_rng _).1, (j_rng _).2⟩, rfl⟩)
            · refine Jz_iconst 3 dX7_turned_104 (by decide) (fun y104 he104 => ?_)
              refine J_goto (tgt := 109) dX7_turned_105 (by decide) ?_
              refine Jz_iaddw dX7_turned_109 (fun y109  => ?_)
              exact J_ret (r := some (.int _)) dX7_turned_110 ⟨rfl, _, rfl, rfl⟩ (⟨⟨_, rfl, (j_rng _).1, (j_rng _).2⟩, rfl⟩)
          · refine Jz_iconst 1 dX7_turned_84 (by decide) (fun y84 he84 => ?_)
            refine J_goto (tgt := 89) dX7_turned_85 (by decide) ?_
            refine J_istore dX7_turned_89 rfl (by decide) ?_
            refine J_iload_n dX7_turned_91 rfl ?_
            refine Jz_bipush 8 dX7_turned_92 (by decide) (fun y92 he92 => ?_)
            refine Jz_idivw he92 dX7_turned_94 (by omega) (fun y94  => ?_)
            refine J_iload_n dX7_turned_95 rfl ?_
            refine J_callS2 moX7_axis jw_ml_X7_98 jw_st_X7_axis dX7_turned_96 (w_X7_axis (d - 1) _ y94 y52 (by omega)   ) (by omega) (Nat.zero_le _) (Nat.zero_le _) (Nat.le_of_ble_eq_true rfl) (fun r96 V96 h96 => ?_)
            obtain ⟨⟨y96, rfl, hl96, hh96⟩, hE96⟩ := h96
            have hE96 := hE96.symm
            subst hE96
            clear hl96 hh96
            refine J_iload dX7_turned_99 rfl ?_
            refine Jz_if_eq (tgt := 108) he84 dX7_turned_101 (by decide) (fun c101 => ?_) (fun c101 => ?_)
            · refine Jz_iconst 0 dX7_turned_108 (by decide) (fun y108 he108 => ?_)
              refine Jz_iaddw dX7_turned_109 (fun y109  => ?_)
              exact J_ret (r := some (.int _)) dX7_turned_110 ⟨rfl, _, rfl, rfl⟩ (⟨⟨_, rfl, (j_rng _).1, (j_rng _).2⟩, rfl⟩)
            · refine Jz_iconst 3 dX7_turned_104 (by decide) (fun y104 he104 => ?_)
              refine J_goto (tgt := 109) dX7_turned_105 (by decide) ?_
              refine Jz_iaddw dX7_turned_109 (fun y109  => ?_)
              exact J_ret (r := some (.int _)) dX7_turned_110 ⟨rfl, _, rfl, rfl⟩ (⟨⟨_, rfl, (j_rng _).1, (j_rng _).2⟩, rfl⟩)
    · refine J_iload_n dX7_turned_28 rfl ?_
      refine Jz_bipush 6 dX7_turned_29 (by decide) (fun y29 he29 => ?_)
      refine Jz_icmp_ge (tgt := 43) jEq.rf he29 dX7_turned_31 (by decide) (fun c31 => ?_) (fun c31 => ?_)
      · refine J_iload_n dX7_turned_43 rfl ?_
        refine J_iload_n dX7_turned_44 rfl ?_
        refine Jz_isubw dX7_turned_45 (fun y45  => ?_)
        refine Jz_bipush 6 dX7_turned_46 (by decide) (fun y46 he46 => ?_)
        refine Jz_iremw he46 dX7_turned_48 (by omega) (fun y48  => ?_)
        exact J_ret (r := some (.int _)) dX7_turned_49 ⟨rfl, _, rfl, rfl⟩ (⟨⟨_, rfl, (j_rng _).1, (j_rng _).2⟩, rfl⟩)
      · refine J_iload_n dX7_turned_34 rfl ?_
        refine J_iload_n dX7_turned_35 rfl ?_
        refine Jz_iaddw dX7_turned_36 (fun y36  => ?_)
        refine Jz_bipush 6 dX7_turned_37 (by decide) (fun y37 he37 => ?_)
        refine Jz_iremw he37 dX7_turned_39 (by omega) (fun y39  => ?_)
        refine J_goto (tgt := 49) dX7_turned_40 (by decide) ?_
        exact J_ret (r := some (.int _)) dX7_turned_49 ⟨rfl, _, rfl, rfl⟩ (⟨⟨_, rfl, (j_rng _).1, (j_rng _).2⟩, rfl⟩)
  · refine J_iload_n dX7_turned_4 rfl ?_
    refine Jz_iconst 4 dX7_turned_5 (by decide) (fun y5 he5 => ?_)
    refine Jz_icmp_ge (tgt := 17) jEq.rf he5 dX7_turned_6 (by decide) (fun c6 => ?_) (fun c6 => ?_)
    · refine J_iload_n dX7_turned_17 rfl ?_
      refine J_iload_n dX7_turned_18 rfl ?_
      refine Jz_isubw dX7_turned_19 (fun y19  => ?_)
      refine Jz_iconst 4 dX7_turned_20 (by decide) (fun y20 he20 => ?_)
      refine Jz_iremw he20 dX7_turned_21 (by omega) (fun y21  => ?_)
      exact J_ret (r := some (.int _)) dX7_turned_22 ⟨rfl, _, rfl, rfl⟩ (⟨⟨_, rfl, (j_rng _).1, (j_rng _).2⟩, rfl⟩)
    · refine J_iload_n dX7_turned_9 rfl ?_
      refine J_iload_n dX7_turned_10 rfl ?_
      refine Jz_iaddw dX7_turned_11 (fun y11  => ?_)
      refine Jz_iconst 4 dX7_turned_12 (by decide) (fun y12 he12 => ?_)
      refine Jz_iremw he12 dX7_turned_13 (by omega) (fun y13  => ?_)
      refine J_goto (tgt := 22) dX7_turned_14 (by decide) ?_
      exact J_ret (r := some (.int _)) dX7_turned_22 ⟨rfl, _, rfl, rfl⟩ (⟨⟨_, rfl, (j_rng _).1, (j_rng _).2⟩, rfl⟩)
set_option maxRecDepth 100000 in
set_option maxHeartbeats 8000000 in
theorem w_X7_opposite {tS : jTS} (d : Nat) (V0 : jH) (x0 : Int32) (x1 : Int32) (hd : 0 ≤ d)   : jTot tS mX7_opposite d [.int x0, .int x1] V0 0 0 (fun r V => (fun r _ => ∃ y : Int32, r = some (.int y) ∧ ((-2147483648) ≤ y.toInt) ∧ (y.toInt ≤ 2147483647)) r V ∧ V = V0) := by
  refine jTot.of_J [some (.int x0), some (.int x1)] moX7_opposite (Nat.le_of_ble_eq_true rfl) rfl ?_
  have hrx0 := j_rng x0
  have hrx1 := j_rng x1
  refine J_iload_n dX7_opposite_0 rfl ?_
  refine Jz_if_ne (tgt := 12) jEq.rf dX7_opposite_1 (by decide) (fun c1 => ?_) (fun c1 => ?_)
  · refine J_iload_n dX7_opposite_12 rfl ?_
    refine Jz_iconst 2 dX7_opposite_13 (by decide) (fun y13 he13 => ?_)
    refine Jz_icmp_ne (tgt := 32) jEq.rf he13 dX7_opposite_14 (by decide) (fun c14 => ?_) (fun c14 => ?_)
    · refine J_iload_n dX7_opposite_32 rfl ?_
      refine Jz_iconst 3 dX7_opposite_33 (by decide) (fun y33 he33 => ?_)
      refine Jz_iaddw dX7_opposite_34 (fun y34  => ?_)
      refine Jz_bipush 6 dX7_opposite_35 (by decide) (fun y35 he35 => ?_)
      refine Jz_iremw he35 dX7_opposite_37 (by omega) (fun y37  => ?_)
      exact J_ret (r := some (.int _)) dX7_opposite_38 ⟨rfl, _, rfl, rfl⟩ (⟨⟨_, rfl, (j_rng _).1, (j_rng _).2⟩, rfl⟩)
    · refine J_iload_n dX7_opposite_17 rfl ?_
      refine Jz_iconst 2 dX7_opposite_18 (by decide) (fun y18 he18 => ?_)
      refine Jz_icmp_ne (tgt := 26) jEq.rf he18 dX7_opposite_19 (by decide) (fun c19 => ?_) (fun c19 => ?_)
      · refine Jz_iconst 1 dX7_opposite_26 (by decide) (fun y26 he26 => ?_)
        refine J_iload_n dX7_opposite_27 rfl ?_
        refine Jz_isubw dX7_opposite_28 (fun y28  => ?_)
        refine J_goto (tgt := 38) dX7_opposite_29 (by decide) ?_
        exact J_ret (r := some (.int _)) dX7_opposite_38 ⟨rfl, _, rfl, rfl⟩ (⟨⟨_, rfl, (j_rng _).1, (j_rng _).2⟩, rfl⟩)
      · refine Jz_iconst 2 dX7_opposite_22 (by decide) (fun y22 he22 => ?_)
        refine J_goto (tgt := 38) dX7_opposite_23 (by decide) ?_
        exact J_ret (r := some (.int _)) dX7_opposite_38 ⟨rfl, _, rfl, rfl⟩ (⟨⟨_, rfl, (j_rng _).1, (j_rng _).2⟩, rfl⟩)
  · refine J_iload_n dX7_opposite_4 rfl ?_
    refine Jz_iconst 2 dX7_opposite_5 (by decide) (fun y5 he5 => ?_)
    refine Jz_iaddw dX7_opposite_6 (fun y6  => ?_)
    refine Jz_iconst 4 dX7_opposite_7 (by decide) (fun y7 he7 => ?_)
    refine Jz_iremw he7 dX7_opposite_8 (by omega) (fun y8  => ?_)
    refine J_goto (tgt := 38) dX7_opposite_9 (by decide) ?_
    exact J_ret (r := some (.int _)) dX7_opposite_38 ⟨rfl, _, rfl, rfl⟩ (⟨⟨_, rfl, (j_rng _).1, (j_rng _).2⟩, rfl⟩)
set_option maxRecDepth 100000 in
set_option maxHeartbeats 8000000 in
theorem w_X7_isWalk {tS : jTS} (d : Nat) (V0 : jH) (a0 : Nat) (x1 : Int32) (hd : 1 ≤ d) (hW : WT V0) (ha0 : jis V0 (.inr 5) a0) : jTot tS mX7_isWalk d [.ref a0, .int x1] V0 0 0 (fun r V => (fun r _ => ∃ y : Int32, r = some (.int y) ∧ (0 ≤ y.toInt) ∧ (y.toInt ≤ 1) ∧ (jIf y 1 (0 ≤ x1.toInt ∧ x1.toInt ≤ 15))) r V ∧ V = V0) := by
  refine jTot.of_J [some (.ref a0), some (.int x1)] moX7_isWalk (Nat.le_of_ble_eq_true rfl) rfl ?_
  have hrx1 := j_rng x1
  have he : jeff [] V0 V0 := jeff.refl _ _
  refine J_iload_n dX7_isWalk_0 rfl ?_
  refine Jz_iconst 0 dX7_isWalk_1 (by decide) (fun y1 he1 => ?_)
  refine J_aload_n dX7_isWalk_2 rfl ?_
  obtain ⟨fs3, hO3, hK3⟩ := WT_obj hW id ha0
  obtain ⟨w3, hF3, y3, rfl, hl3, hh3⟩ := hK3.2 0 (.inl (0, 16)) rfl
  dsimp only at hl3 hh3
  refine J_get jf_X7_102 dX7_isWalk_3 hO3 hF3 ?_
  refine Jz_iconst 1 dX7_isWalk_6 (by decide) (fun y6 he6 => ?_)
  refine Jz_isub jEq.rf he6 dX7_isWalk_7 (by omega) (by omega) (fun y7 he7 => ?_)
  refine J_callS3 moX7_in jw_ml_X7_105 jw_st_X7_in dX7_isWalk_8 (w_X7_in (d - 1) _ x1 y1 y7 (by omega)   ) (by omega) (Nat.zero_le _) (Nat.zero_le _) (Nat.le_of_ble_eq_true rfl) (fun r8 V8 h8 => ?_)
  obtain ⟨⟨y8, rfl, hl8, hh8, hI8_0, hI8_1⟩, hE8⟩ := h8
  have hE8 := hE8.symm
  subst hE8
  exact J_ret (r := some (.int _)) dX7_isWalk_11 ⟨rfl, _, rfl, (nar_b (by omega) (by omega))⟩ (⟨⟨_, rfl, (by omega), (by omega), (fun h => by have q0 := hI8_0.of h; (try simp only [he1.eq, he7.eq] at q0); omega)⟩, rfl⟩)
set_option maxRecDepth 100000 in
set_option maxHeartbeats 8000000 in
theorem w_X7_brings {tS : jTS} (d : Nat) (V0 : jH) (a0 : Nat) (x1 : Int32) (hd : 0 ≤ d) (hW : WT V0) (ha0 : jis V0 (.inr 5) a0) (hp0 : 0 ≤ x1.toInt) (hp1 : x1.toInt ≤ 15) : jTot tS mX7_brings d [.ref a0, .int x1] V0 0 0 (fun r V => (jPost [.inr 5, .inl 17] V0 rV) r V ∧ jkc 5 [0, 23, 24] V0 V ∧ (∃ v5 : Int32, jfI V a0 5 5 v5 ∧ (0 ≤ v5.toInt ∧ v5.toInt ≤ 60))) := by
  refine jTot.of_J [some (.ref a0), some (.int x1), none] moX7_brings (Nat.le_of_ble_eq_true rfl) rfl ?_
  have hrx1 := j_rng x1
  have he : jeff [.inr 5, .inl 17] V0 V0 := jeff.refl _ _
  have hkp : jkc 5 [0, 23, 24] V0 V0 := jkc.rf
  refine J_aload_n dX7_brings_0 rfl ?_
  refine J_aload_n dX7_brings_1 rfl ?_
  obtain ⟨fs2, hO2, hK2⟩ := WT_obj hW id ha0
  obtain ⟨w2, hF2, b2, rfl, hb2⟩ := hK2.2 2 (.inr (some (.inl 15))) rfl
  refine J_get jf_X7_13 dX7_brings_2 hO2 hF2 ?_
  refine J_iload_n dX7_brings_5 rfl ?_
  obtain ⟨n6, f6, hA6, hN6, hM6, hv6⟩ := WT_arrI (r := (0, 60)) hW id rfl hb2
  obtain rfl := hM6 16 rfl
  clear hN6 hM6
  refine Jz_ialdr (r := (0, 60)) jEq.rf dX7_brings_6 hA6 rfl hv6 (by omega) (by omega) (fun y6 hl6 hh6 => ?_)
  dsimp only at hl6 hh6
  refine Jz_putI hO2 hW id rfl jf_X7_109 jt_X7_5 jEq.rf dX7_brings_7 (by omega) (by omega) (fun _ _ => ⟨rfl, rfl⟩) (fun V7 fs7 hW hx7 hO7 hS7 hT7 hB7 => ?_)
  have hK7 : jokO _ (jFs 5) fs7 := hW _ _ id hO7
  have hF7_2 := (hT7 2 (by decide)).trans hF2
  have he := he.trans (hx7.sub (jsub_of rfl))
  have hkp := hkp.trans (jkc.put hO2 hO7 hT7 hB7 (by decide))
  have ha0 := ha0.mono hx7.1
  have hb2 := hb2.mono hx7.1
  have hA6 := hx7.2 _ _ hA6 (jnot_of rfl)
  refine Jz_iconst 0 dX7_brings_10 (by decide) (fun y10 he10 => ?_)
  refine J_istore_n dX7_brings_11 rfl (by decide) ?_
  have L12 : ∀ (N : Nat) (V : jH) (i2n12 : Int32), WT V → jeff [.inr 5, .inl 17] V0 V → (jis V (.inr 5) a0) → (jis V (.inl 15) b2) → (jkc 5 [0, 23, 24] V0 V) → (V a0 = some (.inr (5, fs7))) → (jokO V (jFs 5) fs7) → (0 ≤ i2n12.toInt) → (300 - i2n12.toInt).toNat < N → J tS mX7_brings d 12 [some (.ref a0), some (.int x1), some (.int i2n12)] [] V 0 0 (fun r V => (jPost [.inr 5, .inl 17] V0 rV) r V ∧ jkc 5 [0, 23, 24] V0 V ∧ (∃ v5 : Int32, jfI V a0 5 5 v5 ∧ (0 ≤ v5.toInt ∧ v5.toInt ≤ 60))) := by
    intro N
    induction N with
    | zero => intro V i2n12 hW he ha0 hb2 hkp hO7 hK7 hi2 hm; exact absurd hm (Nat.not_lt_zero _)
    | succ N ih =>
      intro V i2n12 hW he ha0 hb2 hkp hO7 hK7 hi2 hm
      have ih12 := ih
      have hri2 := j_rng i2n12
      refine J_iload_n dX7_brings_12 rfl ?_
      refine J_aload_n dX7_brings_13 rfl ?_
      refine J_get jf_X7_109 dX7_brings_14 hO7 hS7 ?_
      refine Jz_icmp_ge (tgt := 43) jEq.rf jEq.rf dX7_brings_17 (by decide) (fun c17 => ?_) (fun c17 => ?_)
      · exact J_ret (r := none) dX7_brings_43 ⟨rfl, rfl⟩ (⟨⟨hW, he, rfl⟩, hkp, ⟨_, ⟨_, hO7, hS7⟩, (by omega)⟩⟩)
      · refine J_aload_n dX7_brings_20 rfl ?_
        obtain ⟨w21, hF21, b21, rfl, hb21⟩ := hK7.2 4 (.inr (some (.inl 17))) rfl
        refine J_get jf_X7_19 dX7_brings_21 hO7 hF21 ?_
        refine J_iload_n dX7_brings_24 rfl ?_
        refine J_aload_n dX7_brings_25 rfl ?_
        obtain ⟨w26, hF26, b26, rfl, hb26⟩ := hK7.2 3 (.inr (some (.inl 16))) rfl
        refine J_get jf_X7_16 dX7_brings_26 hO7 hF26 ?_
        refine Jz_bipush 60 dX7_brings_29 (by decide) (fun y29 he29 => ?_)
        refine J_iload_n dX7_brings_31 rfl ?_
        refine Jz_imul he29 jEq.rf dX7_brings_32 (by omega) (by omega) (fun y32 he32 => ?_)
        refine J_iload_n dX7_brings_33 rfl ?_
        refine Jz_iadd he32 jEq.rf dX7_brings_34 (by omega) (by omega) (fun y34 he34 => ?_)
        obtain ⟨n35, f35, hA35, hN35, hM35, hv35⟩ := WT_arrI (r := (-2147483648, 2147483647)) hW id rfl hb26
        obtain rfl := hM35 960 rfl
        clear hN35 hM35
        refine Jz_ialdw he34 dX7_brings_35 hA35 rfl (by omega) (by omega) (fun y35 => ?_)
        obtain ⟨n36, f36, hA36, hN36, hM36, hv36⟩ := WT_arrI (r := (-2147483648, 2147483647)) hW id rfl hb21
        obtain rfl := hM36 120 rfl
        clear hN36 hM36
        refine Jz_iastw (r := ((-2147483648), 2147483647)) jEq.rf jEq.rf hW id dX7_brings_36 hA36 rfl rfl (by omega) (by omega) (j_rng _).1 (j_rng _).2 (fun V36 hW hx36 => ?_)
        have he := he.trans (hx36.sub (jsub_of rfl))
        have hkp := hkp.trans (jkc.of hx36 (jnot_of rfl))
        have ha0 := ha0.mono hx36.1
        have hb2 := hb2.mono hx36.1
        have hb21 := hb21.mono hx36.1
        have hb26 := hb26.mono hx36.1
        have hO7 := hx36.2 _ _ hO7 (jnot_of rfl)
        have hK7 := hK7.mono hx36.1
        have hA35 := hx36.2 _ _ hA35 (jnot_of rfl)
        refine Jz_iinc 1 dX7_brings_37 rfl rfl (by decide) jEq.rf (by decide) (by omega) (by omega) (fun y37 he37 => ?_)
        refine J_goto (tgt := 12) dX7_brings_40 (by decide) ?_
        refine J.mask [true, true, true] ?_
        exact ih12 _ y37 hW he ha0 hb2 hkp hO7 hK7 (by (try simp only [he37.eq, true_and, and_true]) <;> omega) (by (try simp only [he37.eq, true_and, and_true]) <;> omega)
  refine J.mask [true, true, true] ?_
  exact L12 _ _ y10 hW he ha0 hb2 hkp hO7 hK7 (by (try simp only [he10.eq, true_and, and_true]) <;> omega) (Nat.lt_succ_self _)
set_option maxRecDepth 100000 in
set_option maxHeartbeats 8000000 in
theorem w_X7_stepAt {tS : jTS} (d : Nat) (V0 : jH) (a0 : Nat) (x1 : Int32) (x2 : Int32) (hd : 2 ≤ d) (hW : WT V0) (ha0 : jis V0 (.inr 5) a0) : jTot tS mX7_stepAt d [.ref a0, .int x1, .int x2] V0 0 0 (fun r V => (fun r _ => ∃ y : Int32, r = some (.int y) ∧ ((-2147483648) ≤ y.toInt) ∧ (y.toInt ≤ 2147483647)) r V ∧ V = V0) := by
  refine jTot.of_J [some (.ref a0), some (.int x1), some (.int x2)] moX7_stepAt (Nat.le_of_ble_eq_true rfl) rfl ?_
  have hrx1 := j_rng x1
  have hrx2 := j_rng x2
  have he : jeff [] V0 V0 := jeff.refl _ _
  refine J_aload_n dX7_stepAt_0 rfl ?_
  refine J_iload_n dX7_stepAt_1 rfl ?_
  refine Jw_callV1 (q9 := (RX7, TX7, 34)) moX7_isWalk jw_ml_X7_130 jw_im_X7_isWalk jw_se_X7_isWalk ha0 rfl rfl dX7_stepAt_2 (w_X7_isWalk (d - 1) _ a0 x1 (by omega) hW  ha0) (by omega) (Nat.zero_le _) (Nat.zero_le _) (Nat.le_of_ble_eq_true rfl) (fun r2 V2 h2 => ?_)
  obtain ⟨⟨y2, rfl, hl2, hh2, hI2_0⟩, hE2⟩ := h2
  have hE2 := hE2.symm
  subst hE2
  refine Jz_if_ne (tgt := 13) jEq.rf dX7_stepAt_5 (by decide) (fun c5 => ?_) (fun c5 => ?_)
  · have q5_0 := hI2_0.of (by omega)
    refine J_iload_n dX7_stepAt_13 rfl ?_
    refine Jz_iconst 0 dX7_stepAt_14 (by decide) (fun y14 he14 => ?_)
    refine J_aload_n dX7_stepAt_15 rfl ?_
    obtain ⟨fs16, hO16, hK16⟩ := WT_obj hW id ha0
    obtain ⟨w16, hF16, b16, rfl, hb16⟩ := hK16.2 2 (.inr (some (.inl 15))) rfl
    refine J_get jf_X7_13 dX7_stepAt_16 hO16 hF16 ?_
    refine J_iload_n dX7_stepAt_19 rfl ?_
    obtain ⟨n20, f20, hA20, hN20, hM20, hv20⟩ := WT_arrI (r := (0, 60)) hW id rfl hb16
    obtain rfl := hM20 16 rfl
    clear hN20 hM20
    refine Jz_ialdr (r := (0, 60)) jEq.rf dX7_stepAt_20 hA20 rfl hv20 (by omega) (by omega) (fun y20 hl20 hh20 => ?_)
    dsimp only at hl20 hh20
    refine Jz_iconst 1 dX7_stepAt_21 (by decide) (fun y21 he21 => ?_)
    refine Jz_isub jEq.rf he21 dX7_stepAt_22 (by omega) (by omega) (fun y22 he22 => ?_)
    refine J_callS3 moX7_in jw_ml_X7_105 jw_st_X7_in dX7_stepAt_23 (w_X7_in (d - 1) _ x2 y14 y22 (by omega)   ) (by omega) (Nat.zero_le _) (Nat.zero_le _) (Nat.le_of_ble_eq_true rfl) (fun r23 V23 h23 => ?_)
    obtain ⟨⟨y23, rfl, hl23, hh23, hI23_0, hI23_1⟩, hE23⟩ := h23
    have hE23 := hE23.symm
    subst hE23
    refine Jz_if_eq (tgt := 43) jEq.rf dX7_stepAt_26 (by decide) (fun c26 => ?_) (fun c26 => ?_)
    · have q26_1 := hI23_1.of (by omega)
      try simp only [he14.eq, he22.eq] at q26_1
      refine Jz_iconst (-1) dX7_stepAt_43 (by decide) (fun y43 he43 => ?_)
      exact J_ret (r := some (.int _)) dX7_stepAt_44 ⟨rfl, _, rfl, rfl⟩ (⟨⟨_, rfl, (j_rng _).1, (j_rng _).2⟩, rfl⟩)
    · have q26_0 := hI23_0.of (by omega)
      try simp only [he14.eq, he22.eq] at q26_0
      refine J_aload_n dX7_stepAt_29 rfl ?_
      obtain ⟨w30, hF30, b30, rfl, hb30⟩ := hK16.2 3 (.inr (some (.inl 16))) rfl
      refine J_get jf_X7_16 dX7_stepAt_30 hO16 hF30 ?_
      refine Jz_bipush 60 dX7_stepAt_33 (by decide) (fun y33 he33 => ?_)
      refine J_iload_n dX7_stepAt_35 rfl ?_
      refine Jz_imul he33 jEq.rf dX7_stepAt_36 (by omega) (by omega) (fun y36 he36 => ?_)
      refine J_iload_n dX7_stepAt_37 rfl ?_
      refine Jz_iadd he36 jEq.rf dX7_stepAt_38 (by omega) (by omega) (fun y38 he38 => ?_)
      obtain ⟨n39, f39, hA39, hN39, hM39, hv39⟩ := WT_arrI (r := (-2147483648, 2147483647)) hW id rfl hb30
      obtain rfl := hM39 960 rfl
      clear hN39 hM39
      refine Jz_ialdw he38 dX7_stepAt_39 hA39 rfl (by omega) (by omega) (fun y39 => ?_)
      refine J_goto (tgt := 44) dX7_stepAt_40 (by decide) ?_
      exact J_ret (r := some (.int _)) dX7_stepAt_44 ⟨rfl, _, rfl, rfl⟩ (⟨⟨_, rfl, (j_rng _).1, (j_rng _).2⟩, rfl⟩)
  · refine Jz_bipush (-2) dX7_stepAt_8 (by decide) (fun y8 he8 => ?_)
    refine J_goto (tgt := 44) dX7_stepAt_10 (by decide) ?_
    exact J_ret (r := some (.int _)) dX7_stepAt_44 ⟨rfl, _, rfl, rfl⟩ (⟨⟨_, rfl, (j_rng _).1, (j_rng _).2⟩, rfl⟩)
set_option maxRecDepth 100000 in
set_option maxHeartbeats 8000000 in
theorem w_X7_tried {tS : jTS} (d : Nat) (V0 : jH) (a0 : Nat) (x1 : Int32) (x2 : Int32) (x3 : Int32) (x4 : Int32) (v5 : Int32) (hd : 2 ≤ d) (hW : WT V0) (ha0 : jis V0 (.inr 5) a0) (hf_v5 : jfI V0 a0 5 5 v5) (hp0 : 0 ≤ x4.toInt) (hp1 : x4.toInt < v5.toInt) : jTot tS mX7_tried d [.ref a0, .int x1, .int x2, .int x3, .int x4] V0 0 0 (fun r V => (fun r _ => ∃ y : Int32, r = some (.int y) ∧ ((-2147483648) ≤ y.toInt) ∧ (y.toInt ≤ 2147483647)) r V ∧ V = V0) := by
  refine jTot.of_J [some (.ref a0), some (.int x1), some (.int x2), some (.int x3), some (.int x4)] moX7_tried (Nat.le_of_ble_eq_true rfl) rfl ?_
  have hrx1 := j_rng x1
  have hrx2 := j_rng x2
  have hrx3 := j_rng x3
  have hrx4 := j_rng x4
  have he : jeff [] V0 V0 := jeff.refl _ _
  obtain ⟨fs_a0, hO_a0, hK_a0⟩ := WT_obj hW id ha0
  have hF_v5 := hf_v5.get hO_a0
  have hrv5 : 0 ≤ v5.toInt ∧ v5.toInt ≤ 120 := jok_rngI hK_a0 rfl hF_v5
  refine J_iload_n dX7_tried_0 rfl ?_
  refine J_iload_n dX7_tried_1 rfl ?_
  refine J_iload_n dX7_tried_2 rfl ?_
  refine Jz_if_eq (tgt := 27) jEq.rf dX7_tried_3 (by decide) (fun c3 => ?_) (fun c3 => ?_)
  · refine J_aload_n dX7_tried_27 rfl ?_
    obtain ⟨w28, hF28, b28, rfl, hb28⟩ := hK_a0.2 4 (.inr (some (.inl 17))) rfl
    refine J_get jf_X7_19 dX7_tried_28 hO_a0 hF28 ?_
    refine J_iload dX7_tried_31 rfl ?_
    obtain ⟨n33, f33, hA33, hN33, hM33, hv33⟩ := WT_arrI (r := (-2147483648, 2147483647)) hW id rfl hb28
    obtain rfl := hM33 120 rfl
    clear hN33 hM33
    refine Jz_ialdw jEq.rf dX7_tried_33 hA33 rfl (by omega) (by omega) (fun y33 => ?_)
    refine J_callS3 moX7_turned jw_ml_X7_146 jw_st_X7_turned dX7_tried_34 (w_X7_turned (d - 1) _ x1 x2 y33 (by omega)   ) (by omega) (Nat.zero_le _) (Nat.zero_le _) (Nat.le_of_ble_eq_true rfl) (fun r34 V34 h34 => ?_)
    obtain ⟨⟨y34, rfl, hl34, hh34⟩, hE34⟩ := h34
    have hE34 := hE34.symm
    subst hE34
    clear hl34 hh34
    exact J_ret (r := some (.int _)) dX7_tried_37 ⟨rfl, _, rfl, rfl⟩ (⟨⟨_, rfl, (j_rng _).1, (j_rng _).2⟩, rfl⟩)
  · refine J_iload_n dX7_tried_6 rfl ?_
    refine J_aload_n dX7_tried_7 rfl ?_
    obtain ⟨w8, hF8, b8, rfl, hb8⟩ := hK_a0.2 4 (.inr (some (.inl 17))) rfl
    refine J_get jf_X7_19 dX7_tried_8 hO_a0 hF8 ?_
    refine J_aload_n dX7_tried_11 rfl ?_
    refine J_get jf_X7_109 dX7_tried_12 hO_a0 hF_v5 ?_
    refine Jz_iconst 1 dX7_tried_15 (by decide) (fun y15 he15 => ?_)
    refine Jz_isub jEq.rf he15 dX7_tried_16 (by omega) (by omega) (fun y16 he16 => ?_)
    refine J_iload dX7_tried_17 rfl ?_
    refine Jz_isub he16 jEq.rf dX7_tried_19 (by omega) (by omega) (fun y19 he19 => ?_)
    obtain ⟨n20, f20, hA20, hN20, hM20, hv20⟩ := WT_arrI (r := (-2147483648, 2147483647)) hW id rfl hb8
    obtain rfl := hM20 120 rfl
    clear hN20 hM20
    refine Jz_ialdw he19 dX7_tried_20 hA20 rfl (by omega) (by omega) (fun y20 => ?_)
    refine J_callS2 moX7_opposite jw_ml_X7_149 jw_st_X7_opposite dX7_tried_21 (w_X7_opposite (d - 1) _ x1 y20 (by omega)   ) (by omega) (Nat.zero_le _) (Nat.zero_le _) (Nat.le_of_ble_eq_true rfl) (fun r21 V21 h21 => ?_)
    obtain ⟨⟨y21, rfl, hl21, hh21⟩, hE21⟩ := h21
    have hE21 := hE21.symm
    subst hE21
    clear hl21 hh21
    refine J_goto (tgt := 34) dX7_tried_24 (by decide) ?_
    refine J_callS3 moX7_turned jw_ml_X7_146 jw_st_X7_turned dX7_tried_34 (w_X7_turned (d - 1) _ x1 x2 y21 (by omega)   ) (by omega) (Nat.zero_le _) (Nat.zero_le _) (Nat.le_of_ble_eq_true rfl) (fun r34 V34 h34 => ?_)
    obtain ⟨⟨y34, rfl, hl34, hh34⟩, hE34⟩ := h34
    have hE34 := hE34.symm
    subst hE34
    clear hl34 hh34
    exact J_ret (r := some (.int _)) dX7_tried_37 ⟨rfl, _, rfl, rfl⟩ (⟨⟨_, rfl, (j_rng _).1, (j_rng _).2⟩, rfl⟩)
set_option maxRecDepth 100000 in
set_option maxHeartbeats 8000000 in
theorem w_X7_findForm {tS : jTS} (d : Nat) (V0 : jH) (a0 : Nat) (x1 : Int32) (v5 : Int32) (hd : 3 ≤ d) (hW : WT V0) (ha0 : jis V0 (.inr 5) a0) (hf_v5 : jfI V0 a0 5 5 v5) (hp0 : v5.toInt ≤ 60) : jTot tS mX7_findForm d [.ref a0, .int x1] V0 0 0 (jPost [.inl 21] V0 rV) := by
  refine jTot.of_J [some (.ref a0), some (.int x1), none, none, none, none, none] moX7_findForm (Nat.le_of_ble_eq_true rfl) rfl ?_
  have hrx1 := j_rng x1
  have he : jeff [.inl 21] V0 V0 := jeff.refl _ _
  obtain ⟨fs_a0, hO_a0, hK_a0⟩ := WT_obj hW id ha0
  have hF_v5 := hf_v5.get hO_a0
  have hrv5 : 0 ≤ v5.toInt ∧ v5.toInt ≤ 120 := jok_rngI hK_a0 rfl hF_v5
  refine Jz_iconst 0 dX7_findForm_0 (by decide) (fun y0 he0 => ?_)
  refine J_istore_n dX7_findForm_1 rfl (by decide) ?_
  have L2 : ∀ (N : Nat) (V : jH) (i2n2 : Int32), WT V → jeff [.inl 21] V0 V → (jis V (.inr 5) a0) → (V a0 = some (.inr (5, fs_a0))) → (jokO V (jFs 5) fs_a0) → (0 ≤ i2n2.toInt) → (300 - i2n2.toInt).toNat < N → J tS mX7_findForm d 2 [some (.ref a0), some (.int x1), some (.int i2n2), none, none, none, none] [] V 0 0 (jPost [.inl 21] V0 rV) := by
    intro N
    induction N with
    | zero => intro V i2n2 hW he ha0 hO_a0 hK_a0 hi2 hm; exact absurd hm (Nat.not_lt_zero _)
    | succ N ih =>
      intro V i2n2 hW he ha0 hO_a0 hK_a0 hi2 hm
      have ih2 := ih
      have hri2 := j_rng i2n2
      refine J_iload_n dX7_findForm_2 rfl ?_
      refine J_aload_n dX7_findForm_3 rfl ?_
      refine J_get jf_X7_109 dX7_findForm_4 hO_a0 hF_v5 ?_
      refine Jz_icmp_ge (tgt := 28) jEq.rf jEq.rf dX7_findForm_7 (by decide) (fun c7 => ?_) (fun c7 => ?_)
      · refine Jz_iconst 0 dX7_findForm_28 (by decide) (fun y28 he28 => ?_)
        refine J_istore_n dX7_findForm_29 rfl (by decide) ?_
        have L30 : ∀ (N : Nat) (V : jH) (i2n30 : Int32), WT V → jeff [.inl 21] V0 V → (jis V (.inr 5) a0) → (V a0 = some (.inr (5, fs_a0))) → (jokO V (jFs 5) fs_a0) → (0 ≤ i2n30.toInt) → (300 - i2n30.toInt).toNat < N → J tS mX7_findForm d 30 [some (.ref a0), some (.int x1), some (.int i2n30), none, none, none, none] [] V 0 0 (jPost [.inl 21] V0 rV) := by
          intro N
          induction N with
          | zero => intro V i2n30 hW he ha0 hO_a0 hK_a0 hi2 hm; exact absurd hm (Nat.not_lt_zero _)
          | succ N ih =>
            intro V i2n30 hW he ha0 hO_a0 hK_a0 hi2 hm
            have ih30 := ih
            have hri2 := j_rng i2n30
            refine J_iload_n dX7_findForm_30 rfl ?_
            refine Jz_iconst 2 dX7_findForm_31 (by decide) (fun y31 he31 => ?_)
            refine J_iload_n dX7_findForm_32 rfl ?_
            refine J_callS1 moX7_turns jw_ml_X7_143 jw_st_X7_turns dX7_findForm_33 (w_X7_turns (d - 1) _ x1 (by omega)   ) (by omega) (Nat.zero_le _) (Nat.zero_le _) (Nat.le_of_ble_eq_true rfl) (fun r33 V33 h33 => ?_)
            obtain ⟨⟨y33, rfl, hl33, hh33, hP33_0⟩, hE33⟩ := h33
            have hE33 := hE33.symm
            subst hE33
            have hz33 : jEq y33.toInt (jtur (x1.toInt)) := hP33_0
            simp only [hP33_0] at hl33 hh33
            clear hP33_0
            refine Jz_imul he31 hz33 dX7_findForm_36 (by omega) (by omega) (fun y36 he36 => ?_)
            refine Jz_icmp_ge (tgt := 167) jEq.rf he36 dX7_findForm_37 (by decide) (fun c37 => ?_) (fun c37 => ?_)
            · exact J_ret (r := none) dX7_findForm_167 ⟨rfl, rfl⟩ (⟨hW, he, rfl⟩)
            · refine J_iload_n dX7_findForm_40 rfl ?_
              refine Jz_iconst 2 dX7_findForm_41 (by decide) (fun y41 he41 => ?_)
              refine Jz_idivw he41 dX7_findForm_42 (by omega) (fun y42  => ?_)
              refine J_istore_n dX7_findForm_43 rfl (by decide) ?_
              refine J_iload_n dX7_findForm_44 rfl ?_
              refine Jz_iconst 2 dX7_findForm_45 (by decide) (fun y45 he45 => ?_)
              refine Jz_iremw he45 dX7_findForm_46 (by omega) (fun y46  => ?_)
              refine Jz_iconst 1 dX7_findForm_47 (by decide) (fun y47 he47 => ?_)
              refine Jz_icmp_ne (tgt := 55) jEq.rf he47 dX7_findForm_48 (by decide) (fun c48 => ?_) (fun c48 => ?_)
              · refine Jz_iconst 0 dX7_findForm_55 (by decide) (fun y55 he55 => ?_)
                refine J_istore dX7_findForm_56 rfl (by decide) ?_
                refine Jz_iconst 0 dX7_findForm_58 (by decide) (fun y58 he58 => ?_)
                refine J_istore dX7_findForm_59 rfl (by decide) ?_
                have L61 : ∀ (N : Nat) (V : jH) (i5n61 : Int32), WT V → jeff [.inl 21] V0 V → (jis V (.inr 5) a0) → (V a0 = some (.inr (5, fs_a0))) → (jokO V (jFs 5) fs_a0) → (0 ≤ i5n61.toInt) → (300 - i5n61.toInt).toNat < N → J tS mX7_findForm d 61 [some (.ref a0), some (.int x1), some (.int i2n30), some (.int y42), some (.int y55), some (.int i5n61), none] [] V 0 0 (jPost [.inl 21] V0 rV) := by
                  intro N
                  induction N with
                  | zero => intro V i5n61 hW he ha0 hO_a0 hK_a0 hi5 hm; exact absurd hm (Nat.not_lt_zero _)
                  | succ N ih =>
                    intro V i5n61 hW he ha0 hO_a0 hK_a0 hi5 hm
                    have ih61 := ih
                    have hri5 := j_rng i5n61
                    refine J_iload dX7_findForm_61 rfl ?_
                    refine J_aload_n dX7_findForm_63 rfl ?_
                    refine J_get jf_X7_109 dX7_findForm_64 hO_a0 hF_v5 ?_
                    refine Jz_icmp_ge (tgt := 96) jEq.rf jEq.rf dX7_findForm_67 (by decide) (fun c67 => ?_) (fun c67 => ?_)
                    · refine J_iload dX7_findForm_96 rfl ?_
                      refine J_aload_n dX7_findForm_98 rfl ?_
                      refine J_get jf_X7_109 dX7_findForm_99 hO_a0 hF_v5 ?_
                      refine Jz_icmp_ge (tgt := 161) jEq.rf jEq.rf dX7_findForm_102 (by decide) (fun c102 => ?_) (fun c102 => ?_)
                      · refine Jz_iinc 1 dX7_findForm_161 rfl rfl (by decide) jEq.rf (by decide) (by omega) (by omega) (fun y161 he161 => ?_)
                        refine J_goto (tgt := 30) dX7_findForm_164 (by decide) ?_
                        refine J.mask [true, true, true, false, false, false, false] ?_
                        exact ih30 _ y161 hW he ha0 hO_a0 hK_a0 (by (try simp only [he161.eq, true_and, and_true]) <;> omega) (by (try simp only [he161.eq, true_and, and_true]) <;> omega)
                      · refine J_aload_n dX7_findForm_105 rfl ?_
                        refine J_iload_n dX7_findForm_106 rfl ?_
                        refine J_iload_n dX7_findForm_107 rfl ?_
                        refine J_iload dX7_findForm_108 rfl ?_
                        refine J_iload dX7_findForm_110 rfl ?_
                        refine Jw_callV4 (q9 := (RX7, TX7, 34)) moX7_tried jw_ml_X7_170 jw_im_X7_tried jw_se_X7_tried ha0 rfl rfl dX7_findForm_112 (w_X7_tried (d - 1) _ a0 x1 y42 y55 i5n61 v5 (by omega) hW  ha0 ⟨_, hO_a0, hF_v5⟩ (by omega) (by omega)) (by omega) (Nat.zero_le _) (Nat.zero_le _) (Nat.le_of_ble_eq_true rfl) (fun r112 V112 h112 => ?_)
                        obtain ⟨⟨y112, rfl, hl112, hh112⟩, hE112⟩ := h112
                        have hE112 := hE112.symm
                        subst hE112
                        clear hl112 hh112
                        refine J_aload_n dX7_findForm_115 rfl ?_
                        obtain ⟨w116, hF116, b116, rfl, hb116⟩ := hK_a0.2 9 (.inr (some (.inl 21))) rfl
                        refine J_get jf_X7_31 dX7_findForm_116 hO_a0 hF116 ?_
                        refine J_iload dX7_findForm_119 rfl ?_
                        obtain ⟨n121, f121, hA121, hN121, hM121, hv121⟩ := WT_arrI (r := (-2147483648, 2147483647)) hW id rfl hb116
                        obtain rfl := hM121 60 rfl
                        clear hN121 hM121
                        refine Jz_ialdw jEq.rf dX7_findForm_121 hA121 rfl (by omega) (by omega) (fun y121 => ?_)
                        refine Jz_icmp_ge (tgt := 161) jEq.rf jEq.rf dX7_findForm_122 (by decide) (fun c122 => ?_) (fun c122 => ?_)
                        · refine Jz_iinc 1 dX7_findForm_161 rfl rfl (by decide) jEq.rf (by decide) (by omega) (by omega) (fun y161 he161 => ?_)
                          refine J_goto (tgt := 30) dX7_findForm_164 (by decide) ?_
                          refine J.mask [true, true, true, false, false, false, false] ?_
                          exact ih30 _ y161 hW he ha0 hO_a0 hK_a0 (by (try simp only [he161.eq, true_and, and_true]) <;> omega) (by (try simp only [he161.eq, true_and, and_true]) <;> omega)
                        · refine J_iload dX7_findForm_125 rfl ?_
                          refine J_istore dX7_findForm_127 rfl (by decide) ?_
                          have L129 : ∀ (N : Nat) (V : jH) (i6n129 : Int32), WT V → jeff [.inl 21] V0 V → (jis V (.inr 5) a0) → (jis V (.inl 21) b116) → (V a0 = some (.inr (5, fs_a0))) → (jokO V (jFs 5) fs_a0) → (0 ≤ i6n129.toInt) → (300 - i6n129.toInt).toNat < N → J tS mX7_findForm d 129 [some (.ref a0), some (.int x1), some (.int i2n30), some (.int y42), some (.int y55), some (.int i5n61), some (.int i6n129)] [] V 0 0 (jPost [.inl 21] V0 rV) := by
                            intro N
                            induction N with
                            | zero => intro V i6n129 hW he ha0 hb116 hO_a0 hK_a0 hi6 hm; exact absurd hm (Nat.not_lt_zero _)
                            | succ N ih =>
                              intro V i6n129 hW he ha0 hb116 hO_a0 hK_a0 hi6 hm
                              have ih129 := ih
                              have hri6 := j_rng i6n129
                              refine J_iload dX7_findForm_129 rfl ?_
                              refine J_aload_n dX7_findForm_131 rfl ?_
                              refine J_get jf_X7_109 dX7_findForm_132 hO_a0 hF_v5 ?_
                              refine Jz_icmp_ge (tgt := 161) jEq.rf jEq.rf dX7_findForm_135 (by decide) (fun c135 => ?_) (fun c135 => ?_)
                              · refine Jz_iinc 1 dX7_findForm_161 rfl rfl (by decide) jEq.rf (by decide) (by omega) (by omega) (fun y161 he161 => ?_)
                                refine J_goto (tgt := 30) dX7_findForm_164 (by decide) ?_
                                refine J.mask [true, true, true, false, false, false, false] ?_
                                exact ih30 _ y161 hW he ha0 hO_a0 hK_a0 (by (try simp only [he161.eq, true_and, and_true]) <;> omega) (by (try simp only [he161.eq, true_and, and_true]) <;> omega)
                              · refine J_aload_n dX7_findForm_138 rfl ?_
                                refine J_get jf_X7_31 dX7_findForm_139 hO_a0 hF116 ?_
                                refine J_iload dX7_findForm_142 rfl ?_
                                refine J_aload_n dX7_findForm_144 rfl ?_
                                refine J_iload_n dX7_findForm_145 rfl ?_
                                refine J_iload_n dX7_findForm_146 rfl ?_
                                refine J_iload dX7_findForm_147 rfl ?_
                                refine J_iload dX7_findForm_149 rfl ?_
                                refine Jw_callV4 (q9 := (RX7, TX7, 34)) moX7_tried jw_ml_X7_170 jw_im_X7_tried jw_se_X7_tried ha0 rfl rfl dX7_findForm_151 (w_X7_tried (d - 1) _ a0 x1 y42 y55 i6n129 v5 (by omega) hW  ha0 ⟨_, hO_a0, hF_v5⟩ (by omega) (by omega)) (by omega) (Nat.zero_le _) (Nat.zero_le _) (Nat.le_of_ble_eq_true rfl) (fun r151 V151 h151 => ?_)
                                obtain ⟨⟨y151, rfl, hl151, hh151⟩, hE151⟩ := h151
                                have hE151 := hE151.symm
                                subst hE151
                                clear hl151 hh151
                                obtain ⟨n154, f154, hA154, hN154, hM154, hv154⟩ := WT_arrI (r := (-2147483648, 2147483647)) hW id rfl hb116
                                obtain rfl := hM154 60 rfl
                                clear hN154 hM154
                                refine Jz_iastw (r := ((-2147483648), 2147483647)) jEq.rf jEq.rf hW id dX7_findForm_154 hA154 rfl rfl (by omega) (by omega) (j_rng _).1 (j_rng _).2 (fun V154 hW hx154 => ?_)
                                have he := he.trans (hx154.sub (jsub_of rfl))
                                have ha0 := ha0.mono hx154.1
                                have hb116 := hb116.mono hx154.1
                                have hO_a0 := hx154.2 _ _ hO_a0 (jnot_of rfl)
                                have hK_a0 := hK_a0.mono hx154.1
                                refine Jz_iinc 1 dX7_findForm_155 rfl rfl (by decide) jEq.rf (by decide) (by omega) (by omega) (fun y155 he155 => ?_)
                                refine J_goto (tgt := 129) dX7_findForm_158 (by decide) ?_
                                refine J.mask [true, true, true, true, true, true, true] ?_
                                exact ih129 _ y155 hW he ha0 hb116 hO_a0 hK_a0 (by (try simp only [he155.eq, true_and, and_true]) <;> omega) (by (try simp only [he155.eq, true_and, and_true]) <;> omega)
                          refine J.mask [true, true, true, true, true, true, true] ?_
                          exact L129 _ _ i5n61 hW he ha0 hb116 hO_a0 hK_a0 (by omega) (Nat.lt_succ_self _)
                    · refine J_aload_n dX7_findForm_70 rfl ?_
                      refine J_iload_n dX7_findForm_71 rfl ?_
                      refine J_iload_n dX7_findForm_72 rfl ?_
                      refine J_iload dX7_findForm_73 rfl ?_
                      refine J_iload dX7_findForm_75 rfl ?_
                      refine Jw_callV4 (q9 := (RX7, TX7, 34)) moX7_tried jw_ml_X7_170 jw_im_X7_tried jw_se_X7_tried ha0 rfl rfl dX7_findForm_77 (w_X7_tried (d - 1) _ a0 x1 y42 y55 i5n61 v5 (by omega) hW  ha0 ⟨_, hO_a0, hF_v5⟩ (by omega) (by omega)) (by omega) (Nat.zero_le _) (Nat.zero_le _) (Nat.le_of_ble_eq_true rfl) (fun r77 V77 h77 => ?_)
                      obtain ⟨⟨y77, rfl, hl77, hh77⟩, hE77⟩ := h77
                      have hE77 := hE77.symm
                      subst hE77
                      clear hl77 hh77
                      refine J_aload_n dX7_findForm_80 rfl ?_
                      obtain ⟨w81, hF81, b81, rfl, hb81⟩ := hK_a0.2 9 (.inr (some (.inl 21))) rfl
                      refine J_get jf_X7_31 dX7_findForm_81 hO_a0 hF81 ?_
                      refine J_iload dX7_findForm_84 rfl ?_
                      obtain ⟨n86, f86, hA86, hN86, hM86, hv86⟩ := WT_arrI (r := (-2147483648, 2147483647)) hW id rfl hb81
                      obtain rfl := hM86 60 rfl
                      clear hN86 hM86
                      refine Jz_ialdw jEq.rf dX7_findForm_86 hA86 rfl (by omega) (by omega) (fun y86 => ?_)
                      refine Jz_icmp_ne (tgt := 96) jEq.rf jEq.rf dX7_findForm_87 (by decide) (fun c87 => ?_) (fun c87 => ?_)
                      · refine J_iload dX7_findForm_96 rfl ?_
                        refine J_aload_n dX7_findForm_98 rfl ?_
                        refine J_get jf_X7_109 dX7_findForm_99 hO_a0 hF_v5 ?_
                        refine Jz_icmp_ge (tgt := 161) jEq.rf jEq.rf dX7_findForm_102 (by decide) (fun c102 => ?_) (fun c102 => ?_)
                        · refine Jz_iinc 1 dX7_findForm_161 rfl rfl (by decide) jEq.rf (by decide) (by omega) (by omega) (fun y161 he161 => ?_)
                          refine J_goto (tgt := 30) dX7_findForm_164 (by decide) ?_
                          refine J.mask [true, true, true, false, false, false, false] ?_
                          exact ih30 _ y161 hW he ha0 hO_a0 hK_a0 (by (try simp only [he161.eq, true_and, and_true]) <;> omega) (by (try simp only [he161.eq, true_and, and_true]) <;> omega)
                        · refine J_aload_n dX7_findForm_105 rfl ?_
                          refine J_iload_n dX7_findForm_106 rfl ?_
                          refine J_iload_n dX7_findForm_107 rfl ?_
                          refine J_iload dX7_findForm_108 rfl ?_
                          refine J_iload dX7_findForm_110 rfl ?_
                          refine Jw_callV4 (q9 := (RX7, TX7, 34)) moX7_tried jw_ml_X7_170 jw_im_X7_tried jw_se_X7_tried ha0 rfl rfl dX7_findForm_112 (w_X7_tried (d - 1) _ a0 x1 y42 y55 i5n61 v5 (by omega) hW  ha0 ⟨_, hO_a0, hF_v5⟩ (by omega) (by omega)) (by omega) (Nat.zero_le _) (Nat.zero_le _) (Nat.le_of_ble_eq_true rfl) (fun r112 V112 h112 => ?_)
                          obtain ⟨⟨y112, rfl, hl112, hh112⟩, hE112⟩ := h112
                          have hE112 := hE112.symm
                          subst hE112
                          clear hl112 hh112
                          refine J_aload_n dX7_findForm_115 rfl ?_
                          refine J_get jf_X7_31 dX7_findForm_116 hO_a0 hF81 ?_
                          refine J_iload dX7_findForm_119 rfl ?_
                          refine Jz_ialdw jEq.rf dX7_findForm_121 hA86 rfl (by omega) (by omega) (fun y121 => ?_)
                          refine Jz_icmp_ge (tgt := 161) jEq.rf jEq.rf dX7_findForm_122 (by decide) (fun c122 => ?_) (fun c122 => ?_)
                          · refine Jz_iinc 1 dX7_findForm_161 rfl rfl (by decide) jEq.rf (by decide) (by omega) (by omega) (fun y161 he161 => ?_)
                            refine J_goto (tgt := 30) dX7_findForm_164 (by decide) ?_
                            refine J.mask [true, true, true, false, false, false, false] ?_
                            exact ih30 _ y161 hW he ha0 hO_a0 hK_a0 (by (try simp only [he161.eq, true_and, and_true]) <;> omega) (by (try simp only [he161.eq, true_and, and_true]) <;> omega)
                          · refine J_iload dX7_findForm_125 rfl ?_
                            refine J_istore dX7_findForm_127 rfl (by decide) ?_
                            have L129 : ∀ (N : Nat) (V : jH) (i6n129 : Int32), WT V → jeff [.inl 21] V0 V → (jis V (.inr 5) a0) → (jis V (.inl 21) b81) → (V a0 = some (.inr (5, fs_a0))) → (jokO V (jFs 5) fs_a0) → (0 ≤ i6n129.toInt) → (300 - i6n129.toInt).toNat < N → J tS mX7_findForm d 129 [some (.ref a0), some (.int x1), some (.int i2n30), some (.int y42), some (.int y55), some (.int i5n61), some (.int i6n129)] [] V 0 0 (jPost [.inl 21] V0 rV) := by
                              intro N
                              induction N with
                              | zero => intro V i6n129 hW he ha0 hb81 hO_a0 hK_a0 hi6 hm; exact absurd hm (Nat.not_lt_zero _)
                              | succ N ih =>
                                intro V i6n129 hW he ha0 hb81 hO_a0 hK_a0 hi6 hm
                                have ih129 := ih
                                have hri6 := j_rng i6n129
                                refine J_iload dX7_findForm_129 rfl ?_
                                refine J_aload_n dX7_findForm_131 rfl ?_
                                refine J_get jf_X7_109 dX7_findForm_132 hO_a0 hF_v5 ?_
                                refine Jz_icmp_ge (tgt := 161) jEq.rf jEq.rf dX7_findForm_135 (by decide) (fun c135 => ?_) (fun c135 => ?_)
                                · refine Jz_iinc 1 dX7_findForm_161 rfl rfl (by decide) jEq.rf (by decide) (by omega) (by omega) (fun y161 he161 => ?_)
                                  refine J_goto (tgt := 30) dX7_findForm_164 (by decide) ?_
                                  refine J.mask [true, true, true, false, false, false, false] ?_
                                  exact ih30 _ y161 hW he ha0 hO_a0 hK_a0 (by (try simp only [he161.eq, true_and, and_true]) <;> omega) (by (try simp only [he161.eq, true_and, and_true]) <;> omega)
                                · refine J_aload_n dX7_findForm_138 rfl ?_
                                  refine J_get jf_X7_31 dX7_findForm_139 hO_a0 hF81 ?_
                                  refine J_iload dX7_findForm_142 rfl ?_
                                  refine J_aload_n dX7_findForm_144 rfl ?_
                                  refine J_iload_n dX7_findForm_145 rfl ?_
                                  refine J_iload_n dX7_findForm_146 rfl ?_
                                  refine J_iload dX7_findForm_147 rfl ?_
                                  refine J_iload dX7_findForm_149 rfl ?_
                                  refine Jw_callV4 (q9 := (RX7, TX7, 34)) moX7_tried jw_ml_X7_170 jw_im_X7_tried jw_se_X7_tried ha0 rfl rfl dX7_findForm_151 (w_X7_tried (d - 1) _ a0 x1 y42 y55 i6n129 v5 (by omega) hW  ha0 ⟨_, hO_a0, hF_v5⟩ (by omega) (by omega)) (by omega) (Nat.zero_le _) (Nat.zero_le _) (Nat.le_of_ble_eq_true rfl) (fun r151 V151 h151 => ?_)
                                  obtain ⟨⟨y151, rfl, hl151, hh151⟩, hE151⟩ := h151
                                  have hE151 := hE151.symm
                                  subst hE151
                                  clear hl151 hh151
                                  obtain ⟨n154, f154, hA154, hN154, hM154, hv154⟩ := WT_arrI (r := (-2147483648, 2147483647)) hW id rfl hb81
                                  obtain rfl := hM154 60 rfl
                                  clear hN154 hM154
                                  refine Jz_iastw (r := ((-2147483648), 2147483647)) jEq.rf jEq.rf hW id dX7_findForm_154 hA154 rfl rfl (by omega) (by omega) (j_rng _).1 (j_rng _).2 (fun V154 hW hx154 => ?_)
                                  have he := he.trans (hx154.sub (jsub_of rfl))
                                  have ha0 := ha0.mono hx154.1
                                  have hb81 := hb81.mono hx154.1
                                  have hO_a0 := hx154.2 _ _ hO_a0 (jnot_of rfl)
                                  have hK_a0 := hK_a0.mono hx154.1
                                  refine Jz_iinc 1 dX7_findForm_155 rfl rfl (by decide) jEq.rf (by decide) (by omega) (by omega) (fun y155 he155 => ?_)
                                  refine J_goto (tgt := 129) dX7_findForm_158 (by decide) ?_
                                  refine J.mask [true, true, true, true, true, true, true] ?_
                                  exact ih129 _ y155 hW he ha0 hb81 hO_a0 hK_a0 (by (try simp only [he155.eq, true_and, and_true]) <;> omega) (by (try simp only [he155.eq, true_and, and_true]) <;> omega)
                            refine J.mask [true, true, true, true, true, true, true] ?_
                            exact L129 _ _ i5n61 hW he ha0 hb81 hO_a0 hK_a0 (by omega) (Nat.lt_succ_self _)
                      · refine Jz_iinc 1 dX7_findForm_90 rfl rfl (by decide) jEq.rf (by decide) (by omega) (by omega) (fun y90 he90 => ?_)
                        refine J_goto (tgt := 61) dX7_findForm_93 (by decide) ?_
                        refine J.mask [true, true, true, true, true, true, false] ?_
                        exact ih61 _ y90 hW he ha0 hO_a0 hK_a0 (by (try simp only [he90.eq, true_and, and_true]) <;> omega) (by (try simp only [he90.eq, true_and, and_true]) <;> omega)
                refine J.mask [true, true, true, true, true, true, false] ?_
                exact L61 _ _ y58 hW he ha0 hO_a0 hK_a0 (by (try simp only [he58.eq, true_and, and_true]) <;> omega) (Nat.lt_succ_self _)
              · refine Jz_iconst 1 dX7_findForm_51 (by decide) (fun y51 he51 => ?_)
                refine J_goto (tgt := 56) dX7_findForm_52 (by decide) ?_
                refine J_istore dX7_findForm_56 rfl (by decide) ?_
                refine Jz_iconst 0 dX7_findForm_58 (by decide) (fun y58 he58 => ?_)
                refine J_istore dX7_findForm_59 rfl (by decide) ?_
                have L61 : ∀ (N : Nat) (V : jH) (i5n61 : Int32), WT V → jeff [.inl 21] V0 V → (jis V (.inr 5) a0) → (V a0 = some (.inr (5, fs_a0))) → (jokO V (jFs 5) fs_a0) → (0 ≤ i5n61.toInt) → (300 - i5n61.toInt).toNat < N → J tS mX7_findForm d 61 [some (.ref a0), some (.int x1), some (.int i2n30), some (.int y42), some (.int y51), some (.int i5n61), none] [] V 0 0 (jPost [.inl 21] V0 rV) := by
                  intro N
                  induction N with
                  | zero => intro V i5n61 hW he ha0 hO_a0 hK_a0 hi5 hm; exact absurd hm (Nat.not_lt_zero _)
                  | succ N ih =>
                    intro V i5n61 hW he ha0 hO_a0 hK_a0 hi5 hm
                    have ih61 := ih
                    have hri5 := j_rng i5n61
                    refine J_iload dX7_findForm_61 rfl ?_
                    refine J_aload_n dX7_findForm_63 rfl ?_
                    refine J_get jf_X7_109 dX7_findForm_64 hO_a0 hF_v5 ?_
                    refine Jz_icmp_ge (tgt := 96) jEq.rf jEq.rf dX7_findForm_67 (by decide) (fun c67 => ?_) (fun c67 => ?_)
                    · refine J_iload dX7_findForm_96 rfl ?_
                      refine J_aload_n dX7_findForm_98 rfl ?_
                      refine J_get jf_X7_109 dX7_findForm_99 hO_a0 hF_v5 ?_
                      refine Jz_icmp_ge (tgt := 161) jEq.rf jEq.rf dX7_findForm_102 (by decide) (fun c102 => ?_) (fun c102 => ?_)
                      · refine Jz_iinc 1 dX7_findForm_161 rfl rfl (by decide) jEq.rf (by decide) (by omega) (by omega) (fun y161 he161 => ?_)
                        refine J_goto (tgt := 30) dX7_findForm_164 (by decide) ?_
                        refine J.mask [true, true, true, false, false, false, false] ?_
                        exact ih30 _ y161 hW he ha0 hO_a0 hK_a0 (by (try simp only [he161.eq, true_and, and_true]) <;> omega) (by (try simp only [he161.eq, true_and, and_true]) <;> omega)
                      · refine J_aload_n dX7_findForm_105 rfl ?_
                        refine J_iload_n dX7_findForm_106 rfl ?_
                        refine J_iload_n dX7_findForm_107 rfl ?_
                        refine J_iload dX7_findForm_108 rfl ?_
                        refine J_iload dX7_findForm_110 rfl ?_
                        refine Jw_callV4 (q9 := (RX7, TX7, 34)) moX7_tried jw_ml_X7_170 jw_im_X7_tried jw_se_X7_tried ha0 rfl rfl dX7_findForm_112 (w_X7_tried (d - 1) _ a0 x1 y42 y51 i5n61 v5 (by omega) hW  ha0 ⟨_, hO_a0, hF_v5⟩ (by omega) (by omega)) (by omega) (Nat.zero_le _) (Nat.zero_le _) (Nat.le_of_ble_eq_true rfl) (fun r112 V112 h112 => ?_)
                        obtain ⟨⟨y112, rfl, hl112, hh112⟩, hE112⟩ := h112
                        have hE112 := hE112.symm
                        subst hE112
                        clear hl112 hh112
                        refine J_aload_n dX7_findForm_115 rfl ?_
                        obtain ⟨w116, hF116, b116, rfl, hb116⟩ := hK_a0.2 9 (.inr (some (.inl 21))) rfl
                        refine J_get jf_X7_31 dX7_findForm_116 hO_a0 hF116 ?_
                        refine J_iload dX7_findForm_119 rfl ?_
                        obtain ⟨n121, f121, hA121, hN121, hM121, hv121⟩ := WT_arrI (r := (-2147483648, 2147483647)) hW id rfl hb116
                        obtain rfl := hM121 60 rfl
                        clear hN121 hM121
                        refine Jz_ialdw jEq.rf dX7_findForm_121 hA121 rfl (by omega) (by omega) (fun y121 => ?_)
                        refine Jz_icmp_ge (tgt := 161) jEq.rf jEq.rf dX7_findForm_122 (by decide) (fun c122 => ?_) (fun c122 => ?_)
                        · refine Jz_iinc 1 dX7_findForm_161 rfl rfl (by decide) jEq.rf (by decide) (by omega) (by omega) (fun y161 he161 => ?_)
                          refine J_goto (tgt := 30) dX7_findForm_164 (by decide) ?_
                          refine J.mask [true, true, true, false, false, false, false] ?_
                          exact ih30 _ y161 hW he ha0 hO_a0 hK_a0 (by (try simp only [he161.eq, true_and, and_true]) <;> omega) (by (try simp only [he161.eq, true_and, and_true]) <;> omega)
                        · refine J_iload dX7_findForm_125 rfl ?_
                          refine J_istore dX7_findForm_127 rfl (by decide) ?_
                          have L129 : ∀ (N : Nat) (V : jH) (i6n129 : Int32), WT V → jeff [.inl 21] V0 V → (jis V (.inr 5) a0) → (jis V (.inl 21) b116) → (V a0 = some (.inr (5, fs_a0))) → (jokO V (jFs 5) fs_a0) → (0 ≤ i6n129.toInt) → (300 - i6n129.toInt).toNat < N → J tS mX7_findForm d 129 [some (.ref a0), some (.int x1), some (.int i2n30), some (.int y42), some (.int y51), some (.int i5n61), some (.int i6n129)] [] V 0 0 (jPost [.inl 21] V0 rV) := by
                            intro N
                            induction N with
                            | zero => intro V i6n129 hW he ha0 hb116 hO_a0 hK_a0 hi6 hm; exact absurd hm (Nat.not_lt_zero _)
                            | succ N ih =>
                              intro V i6n129 hW he ha0 hb116 hO_a0 hK_a0 hi6 hm
                              have ih129 := ih
                              have hri6 := j_rng i6n129
                              refine J_iload dX7_findForm_129 rfl ?_
                              refine J_aload_n dX7_findForm_131 rfl ?_
                              refine J_get jf_X7_109 dX7_findForm_132 hO_a0 hF_v5 ?_
                              refine Jz_icmp_ge (tgt := 161) jEq.rf jEq.rf dX7_findForm_135 (by decide) (fun c135 => ?_) (fun c135 => ?_)
                              · refine Jz_iinc 1 dX7_findForm_161 rfl rfl (by decide) jEq.rf (by decide) (by omega) (by omega) (fun y161 he161 => ?_)
                                refine J_goto (tgt := 30) dX7_findForm_164 (by decide) ?_
                                refine J.mask [true, true, true, false, false, false, false] ?_
                                exact ih30 _ y161 hW he ha0 hO_a0 hK_a0 (by (try simp only [he161.eq, true_and, and_true]) <;> omega) (by (try simp only [he161.eq, true_and, and_true]) <;> omega)
                              · refine J_aload_n dX7_findForm_138 rfl ?_
                                refine J_get jf_X7_31 dX7_findForm_139 hO_a0 hF116 ?_
                                refine J_iload dX7_findForm_142 rfl ?_
                                refine J_aload_n dX7_findForm_144 rfl ?_
                                refine J_iload_n dX7_findForm_145 rfl ?_
                                refine J_iload_n dX7_findForm_146 rfl ?_
                                refine J_iload dX7_findForm_147 rfl ?_
                                refine J_iload dX7_findForm_149 rfl ?_
                                refine Jw_callV4 (q9 := (RX7, TX7, 34)) moX7_tried jw_ml_X7_170 jw_im_X7_tried jw_se_X7_tried ha0 rfl rfl dX7_findForm_151 (w_X7_tried (d - 1) _ a0 x1 y42 y51 i6n129 v5 (by omega) hW  ha0 ⟨_, hO_a0, hF_v5⟩ (by omega) (by omega)) (by omega) (Nat.zero_le _) (Nat.zero_le _) (Nat.le_of_ble_eq_true rfl) (fun r151 V151 h151 => ?_)
                                obtain ⟨⟨y151, rfl, hl151, hh151⟩, hE151⟩ := h151
                                have hE151 := hE151.symm
                                subst hE151
                                clear hl151 hh151
                                obtain ⟨n154, f154, hA154, hN154, hM154, hv154⟩ := WT_arrI (r := (-2147483648, 2147483647)) hW id rfl hb116
                                obtain rfl := hM154 60 rfl
                                clear hN154 hM154
                                refine Jz_iastw (r := ((-2147483648), 2147483647)) jEq.rf jEq.rf hW id dX7_findForm_154 hA154 rfl rfl (by omega) (by omega) (j_rng _).1 (j_rng _).2 (fun V154 hW hx154 => ?_)
                                have he := he.trans (hx154.sub (jsub_of rfl))
                                have ha0 := ha0.mono hx154.1
                                have hb116 := hb116.mono hx154.1
                                have hO_a0 := hx154.2 _ _ hO_a0 (jnot_of rfl)
                                have hK_a0 := hK_a0.mono hx154.1
                                refine Jz_iinc 1 dX7_findForm_155 rfl rfl (by decide) jEq.rf (by decide) (by omega) (by omega) (fun y155 he155 => ?_)
                                refine J_goto (tgt := 129) dX7_findForm_158 (by decide) ?_
                                refine J.mask [true, true, true, true, true, true, true] ?_
                                exact ih129 _ y155 hW he ha0 hb116 hO_a0 hK_a0 (by (try simp only [he155.eq, true_and, and_true]) <;> omega) (by (try simp only [he155.eq, true_and, and_true]) <;> omega)
                          refine J.mask [true, true, true, true, true, true, true] ?_
                          exact L129 _ _ i5n61 hW he ha0 hb116 hO_a0 hK_a0 (by omega) (Nat.lt_succ_self _)
                    · refine J_aload_n dX7_findForm_70 rfl ?_
                      refine J_iload_n dX7_findForm_71 rfl ?_
                      refine J_iload_n dX7_findForm_72 rfl ?_
                      refine J_iload dX7_findForm_73 rfl ?_
                      refine J_iload dX7_findForm_75 rfl ?_
                      refine Jw_callV4 (q9 := (RX7, TX7, 34)) moX7_tried jw_ml_X7_170 jw_im_X7_tried jw_se_X7_tried ha0 rfl rfl dX7_findForm_77 (w_X7_tried (d - 1) _ a0 x1 y42 y51 i5n61 v5 (by omega) hW  ha0 ⟨_, hO_a0, hF_v5⟩ (by omega) (by omega)) (by omega) (Nat.zero_le _) (Nat.zero_le _) (Nat.le_of_ble_eq_true rfl) (fun r77 V77 h77 => ?_)
                      obtain ⟨⟨y77, rfl, hl77, hh77⟩, hE77⟩ := h77
                      have hE77 := hE77.symm
                      subst hE77
                      clear hl77 hh77
                      refine J_aload_n dX7_findForm_80 rfl ?_
                      obtain ⟨w81, hF81, b81, rfl, hb81⟩ := hK_a0.2 9 (.inr (some (.inl 21))) rfl
                      refine J_get jf_X7_31 dX7_findForm_81 hO_a0 hF81 ?_
                      refine J_iload dX7_findForm_84 rfl ?_
                      obtain ⟨n86, f86, hA86, hN86, hM86, hv86⟩ := WT_arrI (r := (-2147483648, 2147483647)) hW id rfl hb81
                      obtain rfl := hM86 60 rfl
                      clear hN86 hM86
                      refine Jz_ialdw jEq.rf dX7_findForm_86 hA86 rfl (by omega) (by omega) (fun y86 => ?_)
                      refine Jz_icmp_ne (tgt := 96) jEq.rf jEq.rf dX7_findForm_87 (by decide) (fun c87 => ?_) (fun c87 => ?_)
                      · refine J_iload dX7_findForm_96 rfl ?_
                        refine J_aload_n dX7_findForm_98 rfl ?_
                        refine J_get jf_X7_109 dX7_findForm_99 hO_a0 hF_v5 ?_
                        refine Jz_icmp_ge (tgt := 161) jEq.rf jEq.rf dX7_findForm_102 (by decide) (fun c102 => ?_) (fun c102 => ?_)
                        · refine Jz_iinc 1 dX7_findForm_161 rfl rfl (by decide) jEq.rf (by decide) (by omega) (by omega) (fun y161 he161 => ?_)
                          refine J_goto (tgt := 30) dX7_findForm_164 (by decide) ?_
                          refine J.mask [true, true, true, false, false, false, false] ?_
                          exact ih30 _ y161 hW he ha0 hO_a0 hK_a0 (by (try simp only [he161.eq, true_and, and_true]) <;> omega) (by (try simp only [he161.eq, true_and, and_true]) <;> omega)
                        · refine J_aload_n dX7_findForm_105 rfl ?_
                          refine J_iload_n dX7_findForm_106 rfl ?_
                          refine J_iload_n dX7_findForm_107 rfl ?_
                          refine J_iload dX7_findForm_108 rfl ?_
                          refine J_iload dX7_findForm_110 rfl ?_
                          refine Jw_callV4 (q9 := (RX7, TX7, 34)) moX7_tried jw_ml_X7_170 jw_im_X7_tried jw_se_X7_tried ha0 rfl rfl dX7_findForm_112 (w_X7_tried (d - 1) _ a0 x1 y42 y51 i5n61 v5 (by omega) hW  ha0 ⟨_, hO_a0, hF_v5⟩ (by omega) (by omega)) (by omega) (Nat.zero_le _) (Nat.zero_le _) (Nat.le_of_ble_eq_true rfl) (fun r112 V112 h112 => ?_)
                          obtain ⟨⟨y112, rfl, hl112, hh112⟩, hE112⟩ := h112
                          have hE112 := hE112.symm
                          subst hE112
                          clear hl112 hh112
                          refine J_aload_n dX7_findForm_115 rfl ?_
                          refine J_get jf_X7_31 dX7_findForm_116 hO_a0 hF81 ?_
                          refine J_iload dX7_findForm_119 rfl ?_
                          refine Jz_ialdw jEq.rf dX7_findForm_121 hA86 rfl (by omega) (by omega) (fun y121 => ?_)
                          refine Jz_icmp_ge (tgt := 161) jEq.rf jEq.rf dX7_findForm_122 (by decide) (fun c122 => ?_) (fun c122 => ?_)
                          · refine Jz_iinc 1 dX7_findForm_161 rfl rfl (by decide) jEq.rf (by decide) (by omega) (by omega) (fun y161 he161 => ?_)
                            refine J_goto (tgt := 30) dX7_findForm_164 (by decide) ?_
                            refine J.mask [true, true, true, false, false, false, false] ?_
                            exact ih30 _ y161 hW he ha0 hO_a0 hK_a0 (by (try simp only [he161.eq, true_and, and_true]) <;> omega) (by (try simp only [he161.eq, true_and, and_true]) <;> omega)
                          · refine J_iload dX7_findForm_125 rfl ?_
                            refine J_istore dX7_findForm_127 rfl (by decide) ?_
                            have L129 : ∀ (N : Nat) (V : jH) (i6n129 : Int32), WT V → jeff [.inl 21] V0 V → (jis V (.inr 5) a0) → (jis V (.inl 21) b81) → (V a0 = some (.inr (5, fs_a0))) → (jokO V (jFs 5) fs_a0) → (0 ≤ i6n129.toInt) → (300 - i6n129.toInt).toNat < N → J tS mX7_findForm d 129 [some (.ref a0), some (.int x1), some (.int i2n30), some (.int y42), some (.int y51), some (.int i5n61), some (.int i6n129)] [] V 0 0 (jPost [.inl 21] V0 rV) := by
                              intro N
                              induction N with
                              | zero => intro V i6n129 hW he ha0 hb81 hO_a0 hK_a0 hi6 hm; exact absurd hm (Nat.not_lt_zero _)
                              | succ N ih =>
                                intro V i6n129 hW he ha0 hb81 hO_a0 hK_a0 hi6 hm
                                have ih129 := ih
                                have hri6 := j_rng i6n129
                                refine J_iload dX7_findForm_129 rfl ?_
                                refine J_aload_n dX7_findForm_131 rfl ?_
                                refine J_get jf_X7_109 dX7_findForm_132 hO_a0 hF_v5 ?_
                                refine Jz_icmp_ge (tgt := 161) jEq.rf jEq.rf dX7_findForm_135 (by decide) (fun c135 => ?_) (fun c135 => ?_)
                                · refine Jz_iinc 1 dX7_findForm_161 rfl rfl (by decide) jEq.rf (by decide) (by omega) (by omega) (fun y161 he161 => ?_)
                                  refine J_goto (tgt := 30) dX7_findForm_164 (by decide) ?_
                                  refine J.mask [true, true, true, false, false, false, false] ?_
                                  exact ih30 _ y161 hW he ha0 hO_a0 hK_a0 (by (try simp only [he161.eq, true_and, and_true]) <;> omega) (by (try simp only [he161.eq, true_and, and_true]) <;> omega)
                                · refine J_aload_n dX7_findForm_138 rfl ?_
                                  refine J_get jf_X7_31 dX7_findForm_139 hO_a0 hF81 ?_
                                  refine J_iload dX7_findForm_142 rfl ?_
                                  refine J_aload_n dX7_findForm_144 rfl ?_
                                  refine J_iload_n dX7_findForm_145 rfl ?_
                                  refine J_iload_n dX7_findForm_146 rfl ?_
                                  refine J_iload dX7_findForm_147 rfl ?_
                                  refine J_iload dX7_findForm_149 rfl ?_
                                  refine Jw_callV4 (q9 := (RX7, TX7, 34)) moX7_tried jw_ml_X7_170 jw_im_X7_tried jw_se_X7_tried ha0 rfl rfl dX7_findForm_151 (w_X7_tried (d - 1) _ a0 x1 y42 y51 i6n129 v5 (by omega) hW  ha0 ⟨_, hO_a0, hF_v5⟩ (by omega) (by omega)) (by omega) (Nat.zero_le _) (Nat.zero_le _) (Nat.le_of_ble_eq_true rfl) (fun r151 V151 h151 => ?_)
                                  obtain ⟨⟨y151, rfl, hl151, hh151⟩, hE151⟩ := h151
                                  have hE151 := hE151.symm
                                  subst hE151
                                  clear hl151 hh151
                                  obtain ⟨n154, f154, hA154, hN154, hM154, hv154⟩ := WT_arrI (r := (-2147483648, 2147483647)) hW id rfl hb81
                                  obtain rfl := hM154 60 rfl
                                  clear hN154 hM154
                                  refine Jz_iastw (r := ((-2147483648), 2147483647)) jEq.rf jEq.rf hW id dX7_findForm_154 hA154 rfl rfl (by omega) (by omega) (j_rng _).1 (j_rng _).2 (fun V154 hW hx154 => ?_)
                                  have he := he.trans (hx154.sub (jsub_of rfl))
                                  have ha0 := ha0.mono hx154.1
                                  have hb81 := hb81.mono hx154.1
                                  have hO_a0 := hx154.2 _ _ hO_a0 (jnot_of rfl)
                                  have hK_a0 := hK_a0.mono hx154.1
                                  refine Jz_iinc 1 dX7_findForm_155 rfl rfl (by decide) jEq.rf (by decide) (by omega) (by omega) (fun y155 he155 => ?_)
                                  refine J_goto (tgt := 129) dX7_findForm_158 (by decide) ?_
                                  refine J.mask [true, true, true, true, true, true, true] ?_
                                  exact ih129 _ y155 hW he ha0 hb81 hO_a0 hK_a0 (by (try simp only [he155.eq, true_and, and_true]) <;> omega) (by (try simp only [he155.eq, true_and, and_true]) <;> omega)
                            refine J.mask [true, true, true, true, true, true, true] ?_
                            exact L129 _ _ i5n61 hW he ha0 hb81 hO_a0 hK_a0 (by omega) (Nat.lt_succ_self _)
                      · refine Jz_iinc 1 dX7_findForm_90 rfl rfl (by decide) jEq.rf (by decide) (by omega) (by omega) (fun y90 he90 => ?_)
                        refine J_goto (tgt := 61) dX7_findForm_93 (by decide) ?_
                        refine J.mask [true, true, true, true, true, true, false] ?_
                        exact ih61 _ y90 hW he ha0 hO_a0 hK_a0 (by (try simp only [he90.eq, true_and, and_true]) <;> omega) (by (try simp only [he90.eq, true_and, and_true]) <;> omega)
                refine J.mask [true, true, true, true, true, true, false] ?_
                exact L61 _ _ y58 hW he ha0 hO_a0 hK_a0 (by (try simp only [he58.eq, true_and, and_true]) <;> omega) (Nat.lt_succ_self _)
        refine J.mask [true, true, true, false, false, false, false] ?_
        exact L30 _ _ y28 hW he ha0 hO_a0 hK_a0 (by (try simp only [he28.eq, true_and, and_true]) <;> omega) (Nat.lt_succ_self _)
      · refine J_aload_n dX7_findForm_10 rfl ?_
        obtain ⟨w11, hF11, b11, rfl, hb11⟩ := hK_a0.2 9 (.inr (some (.inl 21))) rfl
        refine J_get jf_X7_31 dX7_findForm_11 hO_a0 hF11 ?_
        refine J_iload_n dX7_findForm_14 rfl ?_
        refine J_aload_n dX7_findForm_15 rfl ?_
        obtain ⟨w16, hF16, b16, rfl, hb16⟩ := hK_a0.2 4 (.inr (some (.inl 17))) rfl
        refine J_get jf_X7_19 dX7_findForm_16 hO_a0 hF16 ?_
        refine J_iload_n dX7_findForm_19 rfl ?_
        obtain ⟨n20, f20, hA20, hN20, hM20, hv20⟩ := WT_arrI (r := (-2147483648, 2147483647)) hW id rfl hb16
        obtain rfl := hM20 120 rfl
        clear hN20 hM20
        refine Jz_ialdw jEq.rf dX7_findForm_20 hA20 rfl (by omega) (by omega) (fun y20 => ?_)
        obtain ⟨n21, f21, hA21, hN21, hM21, hv21⟩ := WT_arrI (r := (-2147483648, 2147483647)) hW id rfl hb11
        obtain rfl := hM21 60 rfl
        clear hN21 hM21
        refine Jz_iastw (r := ((-2147483648), 2147483647)) jEq.rf jEq.rf hW id dX7_findForm_21 hA21 rfl rfl (by omega) (by omega) (j_rng _).1 (j_rng _).2 (fun V21 hW hx21 => ?_)
        have he := he.trans (hx21.sub (jsub_of rfl))
        have ha0 := ha0.mono hx21.1
        have hb11 := hb11.mono hx21.1
        have hb16 := hb16.mono hx21.1
        have hO_a0 := hx21.2 _ _ hO_a0 (jnot_of rfl)
        have hK_a0 := hK_a0.mono hx21.1
        have hA20 := hx21.2 _ _ hA20 (jnot_of rfl)
        refine Jz_iinc 1 dX7_findForm_22 rfl rfl (by decide) jEq.rf (by decide) (by omega) (by omega) (fun y22 he22 => ?_)
        refine J_goto (tgt := 2) dX7_findForm_25 (by decide) ?_
        refine J.mask [true, true, true, false, false, false, false] ?_
        exact ih2 _ y22 hW he ha0 hO_a0 hK_a0 (by (try simp only [he22.eq, true_and, and_true]) <;> omega) (by (try simp only [he22.eq, true_and, and_true]) <;> omega)
  refine J.mask [true, true, true, false, false, false, false] ?_
  exact L2 _ _ y0 hW he ha0 hO_a0 hK_a0 (by (try simp only [he0.eq, true_and, and_true]) <;> omega) (Nat.lt_succ_self _)
set_option maxRecDepth 100000 in
set_option maxHeartbeats 8000000 in
theorem w_X7_form {tS : jTS} (d : Nat) (V0 : jH) (a0 : Nat) (x1 : Int32) (x2 : Int32) (hd : 4 ≤ d) (hW : WT V0) (ha0 : jis V0 (.inr 5) a0) : jTot tS mX7_form d [.ref a0, .int x1, .int x2] V0 0 0 (fun r V => (jPost [.inr 5, .inl 17, .inl 21] V0 (fun r _ => ∃ y : Int32, r = some (.int y) ∧ ((-2147483648) ≤ y.toInt) ∧ (y.toInt ≤ 2147483647))) r V ∧ jkc 5 [0, 23, 24] V0 V) := by
  refine jTot.of_J [some (.ref a0), some (.int x1), some (.int x2)] moX7_form (Nat.le_of_ble_eq_true rfl) rfl ?_
  have hrx1 := j_rng x1
  have hrx2 := j_rng x2
  have he : jeff [.inr 5, .inl 17, .inl 21] V0 V0 := jeff.refl _ _
  have hkp : jkc 5 [0, 23, 24] V0 V0 := jkc.rf
  refine J_aload_n dX7_form_0 rfl ?_
  refine J_iload_n dX7_form_1 rfl ?_
  refine Jw_callV1 (q9 := (RX7, TX7, 34)) moX7_isWalk jw_ml_X7_130 jw_im_X7_isWalk jw_se_X7_isWalk ha0 rfl rfl dX7_form_2 (w_X7_isWalk (d - 1) _ a0 x1 (by omega) hW  ha0) (by omega) (Nat.zero_le _) (Nat.zero_le _) (Nat.le_of_ble_eq_true rfl) (fun r2 V2 h2 => ?_)
  obtain ⟨⟨y2, rfl, hl2, hh2, hI2_0⟩, hE2⟩ := h2
  have hE2 := hE2.symm
  subst hE2
  refine Jz_if_ne (tgt := 11) jEq.rf dX7_form_5 (by decide) (fun c5 => ?_) (fun c5 => ?_)
  · have q5_0 := hI2_0.of (by omega)
    refine J_aload_n dX7_form_11 rfl ?_
    refine J_iload_n dX7_form_12 rfl ?_
    refine Jw_callV1 (q9 := (RX7, TX7, 34)) moX7_brings jw_ml_X7_137 jw_im_X7_brings jw_se_X7_brings ha0 rfl rfl dX7_form_13 (w_X7_brings (d - 1) _ a0 x1 (by omega) hW  ha0 (by omega) (by omega)) (by omega) (Nat.zero_le _) (Nat.zero_le _) (Nat.le_of_ble_eq_true rfl) (fun r13 V13 h13 => ?_)
    obtain ⟨h13, hX13_0, ⟨fv13_0, hfv13_0, hfp13_0⟩⟩ := h13
    obtain ⟨hW, hx13, hr13⟩ := h13
    have he := he.trans (hx13.sub (jsub_of rfl))
    have hkp := hkp.trans hX13_0
    have ha0 := ha0.mono hx13.1
    cases hr13
    obtain ⟨fs13o, hO13o, hK13o⟩ := WT_obj hW id ha0
    have hFv13_0 := hfv13_0.get hO13o
    refine J_aload_n dX7_form_16 rfl ?_
    refine J_aload_n dX7_form_17 rfl ?_
    obtain ⟨w18, hF18, b18, rfl, hb18⟩ := hK13o.2 1 (.inr (some (.inl 14))) rfl
    refine J_get jf_X7_7 dX7_form_18 hO13o hF18 ?_
    refine J_iload_n dX7_form_21 rfl ?_
    obtain ⟨n22, f22, hA22, hN22, hM22, hv22⟩ := WT_arrI (r := (0, 3)) hW id rfl hb18
    obtain rfl := hM22 16 rfl
    clear hN22 hM22
    refine Jz_ialdr (r := (0, 3)) jEq.rf dX7_form_22 hA22 rfl hv22 (by omega) (by omega) (fun y22 hl22 hh22 => ?_)
    dsimp only at hl22 hh22
    refine Jw_callV1 (q9 := (RX7, TX7, 34)) moX7_findForm jw_ml_X7_174 jw_im_X7_findForm jw_se_X7_findForm ha0 rfl rfl dX7_form_23 (w_X7_findForm (d - 1) _ a0 y22 fv13_0 (by omega) hW  ha0 ⟨_, hO13o, hFv13_0⟩ (by omega)) (by omega) (Nat.zero_le _) (Nat.zero_le _) (Nat.le_of_ble_eq_true rfl) (fun r23 V23 h23 => ?_)
    obtain ⟨hW, hx23, hr23⟩ := h23
    have he := he.trans (hx23.sub (jsub_of rfl))
    have hkp := hkp.trans (jkc.of hx23 (jnot_of rfl))
    have ha0 := ha0.mono hx23.1
    have hb18 := hb18.mono hx23.1
    have hO13o := hx23.2 _ _ hO13o (jnot_of rfl)
    have hK13o := hK13o.mono hx23.1
    have hA22 := hx23.2 _ _ hA22 (jnot_of rfl)
    cases hr23
    refine J_iload_n dX7_form_26 rfl ?_
    refine Jz_iconst 0 dX7_form_27 (by decide) (fun y27 he27 => ?_)
    refine J_aload_n dX7_form_28 rfl ?_
    refine J_get jf_X7_109 dX7_form_29 hO13o hFv13_0 ?_
    refine Jz_iconst 1 dX7_form_32 (by decide) (fun y32 he32 => ?_)
    refine Jz_isub jEq.rf he32 dX7_form_33 (by omega) (by omega) (fun y33 he33 => ?_)
    refine J_callS3 moX7_in jw_ml_X7_105 jw_st_X7_in dX7_form_34 (w_X7_in (d - 1) _ x2 y27 y33 (by omega)   ) (by omega) (Nat.zero_le _) (Nat.zero_le _) (Nat.le_of_ble_eq_true rfl) (fun r34 V34 h34 => ?_)
    obtain ⟨⟨y34, rfl, hl34, hh34, hI34_0, hI34_1⟩, hE34⟩ := h34
    have hE34 := hE34.symm
    subst hE34
    refine Jz_if_eq (tgt := 49) jEq.rf dX7_form_37 (by decide) (fun c37 => ?_) (fun c37 => ?_)
    · have q37_1 := hI34_1.of (by omega)
      try simp only [he27.eq, he33.eq] at q37_1
      refine Jz_iconst (-1) dX7_form_49 (by decide) (fun y49 he49 => ?_)
      exact J_ret (r := some (.int _)) dX7_form_50 ⟨rfl, _, rfl, rfl⟩ (⟨⟨hW, he, ⟨_, rfl, (j_rng _).1, (j_rng _).2⟩⟩, hkp⟩)
    · have q37_0 := hI34_0.of (by omega)
      try simp only [he27.eq, he33.eq] at q37_0
      refine J_aload_n dX7_form_40 rfl ?_
      obtain ⟨w41, hF41, b41, rfl, hb41⟩ := hK13o.2 9 (.inr (some (.inl 21))) rfl
      refine J_get jf_X7_31 dX7_form_41 hO13o hF41 ?_
      refine J_iload_n dX7_form_44 rfl ?_
      obtain ⟨n45, f45, hA45, hN45, hM45, hv45⟩ := WT_arrI (r := (-2147483648, 2147483647)) hW id rfl hb41
      obtain rfl := hM45 60 rfl
      clear hN45 hM45
      refine Jz_ialdw jEq.rf dX7_form_45 hA45 rfl (by omega) (by omega) (fun y45 => ?_)
      refine J_goto (tgt := 50) dX7_form_46 (by decide) ?_
      exact J_ret (r := some (.int _)) dX7_form_50 ⟨rfl, _, rfl, rfl⟩ (⟨⟨hW, he, ⟨_, rfl, (j_rng _).1, (j_rng _).2⟩⟩, hkp⟩)
  · refine Jz_bipush (-2) dX7_form_8 (by decide) (fun y8 he8 => ?_)
    exact J_ret (r := some (.int _)) dX7_form_10 ⟨rfl, _, rfl, rfl⟩ (⟨⟨hW, he, ⟨_, rfl, (j_rng _).1, (j_rng _).2⟩⟩, hkp⟩)
set_option maxRecDepth 100000 in
set_option maxHeartbeats 8000000 in
theorem w_X7_open {tS : jTS} (d : Nat) (V0 : jH) (a0 : Nat) (hd : 0 ≤ d) (hW : WT V0) (ha0 : jis V0 (.inr 5) a0) : jTot tS mX7_open d [.ref a0] V0 0 0 (fun r V => (fun r _ => ∃ y : Int32, r = some (.int y) ∧ ((-2147483648) ≤ y.toInt) ∧ (y.toInt ≤ 2147483647)) r V ∧ V = V0) := by
  refine jTot.of_J [some (.ref a0), none, none] moX7_open (Nat.le_of_ble_eq_true rfl) rfl ?_
  have he : jeff [] V0 V0 := jeff.refl _ _
  refine Jz_iconst 0 dX7_open_0 (by decide) (fun y0 he0 => ?_)
  refine J_istore_n dX7_open_1 rfl (by decide) ?_
  refine Jz_iconst 0 dX7_open_2 (by decide) (fun y2 he2 => ?_)
  refine J_istore_n dX7_open_3 rfl (by decide) ?_
  have L4 : ∀ (N : Nat) (i1n4 : Int32) (i2n4 : Int32), (0 ≤ i2n4.toInt) → (300 - i2n4.toInt).toNat < N → J tS mX7_open d 4 [some (.ref a0), some (.int i1n4), some (.int i2n4)] [] V0 0 0 (fun r V => (fun r _ => ∃ y : Int32, r = some (.int y) ∧ ((-2147483648) ≤ y.toInt) ∧ (y.toInt ≤ 2147483647)) r V ∧ V = V0) := by
    intro N
    induction N with
    | zero => intro i1n4 i2n4  hi2 hm; exact absurd hm (Nat.not_lt_zero _)
    | succ N ih =>
      intro i1n4 i2n4  hi2 hm
      have ih4 := ih
      have hri2 := j_rng i2n4
      refine J_iload_n dX7_open_4 rfl ?_
      refine J_aload_n dX7_open_5 rfl ?_
      obtain ⟨fs6, hO6, hK6⟩ := WT_obj hW id ha0
      obtain ⟨w6, hF6, y6, rfl, hl6, hh6⟩ := hK6.2 23 (.inl (2, 6)) rfl
      dsimp only at hl6 hh6
      refine J_get jf_X7_73 dX7_open_6 hO6 hF6 ?_
      refine J_aload_n dX7_open_9 rfl ?_
      obtain ⟨w10, hF10, y10, rfl, hl10, hh10⟩ := hK6.2 24 (.inl (2, 6)) rfl
      dsimp only at hl10 hh10
      refine J_get jf_X7_77 dX7_open_10 hO6 hF10 ?_
      refine Jz_imulB 6 jEq.rf jEq.rf dX7_open_13 (by omega) (by omega) (by omega) (by omega) (fun y13 he13 hf13 => ?_)
      refine Jz_icmp_ge (tgt := 40) jEq.rf jEq.rf dX7_open_14 (by decide) (fun c14 => ?_) (fun c14 => ?_)
      · refine J_iload_n dX7_open_40 rfl ?_
        exact J_ret (r := some (.int _)) dX7_open_41 ⟨rfl, _, rfl, rfl⟩ (⟨⟨_, rfl, (j_rng _).1, (j_rng _).2⟩, rfl⟩)
      · refine J_iload_n dX7_open_17 rfl ?_
        refine J_aload_n dX7_open_18 rfl ?_
        obtain ⟨w19, hF19, b19, rfl, hb19⟩ := hK6.2 25 (.inr (some (.inl 43))) rfl
        refine J_get jf_X7_80 dX7_open_19 hO6 hF19 ?_
        refine J_iload_n dX7_open_22 rfl ?_
        obtain ⟨n23, f23, hA23, hN23, hM23, hv23⟩ := WT_arrI (r := (0, 1)) hW id rfl hb19
        obtain rfl := hM23 36 rfl
        clear hN23 hM23
        refine Jz_zaldr (r := (0, 1)) jEq.rf dX7_open_23 hA23 rfl hv23 (by omega) (by omega) (fun y23 hl23 hh23 => ?_)
        dsimp only at hl23 hh23
        refine Jz_if_eq (tgt := 31) jEq.rf dX7_open_24 (by decide) (fun c24 => ?_) (fun c24 => ?_)
        · refine Jz_iconst 1 dX7_open_31 (by decide) (fun y31 he31 => ?_)
          refine Jz_iaddw dX7_open_32 (fun y32  => ?_)
          refine J_istore_n dX7_open_33 rfl (by decide) ?_
          refine Jz_iinc 1 dX7_open_34 rfl rfl (by decide) jEq.rf (by decide) (by omega) (by omega) (fun y34 he34 => ?_)
          refine J_goto (tgt := 4) dX7_open_37 (by decide) ?_
          refine J.mask [true, true, true] ?_
          exact ih4  y32 y34  (by (try simp only [he34.eq, true_and, and_true]) <;> omega) (by (try simp only [he34.eq, true_and, and_true]) <;> omega)
        · refine Jz_iconst 0 dX7_open_27 (by decide) (fun y27 he27 => ?_)
          refine J_goto (tgt := 32) dX7_open_28 (by decide) ?_
          refine Jz_iaddw dX7_open_32 (fun y32  => ?_)
          refine J_istore_n dX7_open_33 rfl (by decide) ?_
          refine Jz_iinc 1 dX7_open_34 rfl rfl (by decide) jEq.rf (by decide) (by omega) (by omega) (fun y34 he34 => ?_)
          refine J_goto (tgt := 4) dX7_open_37 (by decide) ?_
          refine J.mask [true, true, true] ?_
          exact ih4  y32 y34  (by (try simp only [he34.eq, true_and, and_true]) <;> omega) (by (try simp only [he34.eq, true_and, and_true]) <;> omega)
  refine J.mask [true, true, true] ?_
  exact L4 _  y0 y2    (by (try simp only [he0.eq, he2.eq, true_and, and_true]) <;> omega) (Nat.lt_succ_self _)
set_option maxRecDepth 100000 in
set_option maxHeartbeats 8000000 in
theorem w_X7_next {tS : jTS} (d : Nat) (V0 : jH) (a0 : Nat) (x1 : Int32) (x2 : Int32) (hd : 1 ≤ d) (hW : WT V0) (ha0 : jis V0 (.inr 5) a0) : jTot tS mX7_next d [.ref a0, .int x1, .int x2] V0 0 0 (fun r V => (fun r _ => ∃ y : Int32, r = some (.int y) ∧ ((-1) ≤ y.toInt) ∧ (y.toInt ≤ 35)) r V ∧ V = V0) := by
  refine jTot.of_J [some (.ref a0), some (.int x1), some (.int x2), none, none] moX7_next (Nat.le_of_ble_eq_true rfl) rfl ?_
  have hrx1 := j_rng x1
  have hrx2 := j_rng x2
  have he : jeff [] V0 V0 := jeff.refl _ _
  refine J_iload_n dX7_next_0 rfl ?_
  refine J_aload_n dX7_next_1 rfl ?_
  obtain ⟨fs2, hO2, hK2⟩ := WT_obj hW id ha0
  obtain ⟨w2, hF2, y2, rfl, hl2, hh2⟩ := hK2.2 23 (.inl (2, 6)) rfl
  dsimp only at hl2 hh2
  refine J_get jf_X7_73 dX7_next_2 hO2 hF2 ?_
  refine Jz_iremw jEq.rf dX7_next_5 (by omega) (fun y5  => ?_)
  refine Jz_iconst 0 dX7_next_6 (by decide) (fun y6 he6 => ?_)
  refine J_iload_n dX7_next_7 rfl ?_
  refine J_callS2 moX7_stepX jw_ml_X7_112 jw_st_X7_stepX dX7_next_8 (w_X7_stepX (d - 1) _ y6 x2 (by omega)   ) (by omega) (Nat.zero_le _) (Nat.zero_le _) (Nat.le_of_ble_eq_true rfl) (fun r8 V8 h8 => ?_)
  obtain ⟨⟨y8, rfl, hl8, hh8⟩, hE8⟩ := h8
  have hE8 := hE8.symm
  subst hE8
  refine Jz_iaddw dX7_next_11 (fun y11  => ?_)
  refine J_istore_n dX7_next_12 rfl (by decide) ?_
  refine J_iload_n dX7_next_13 rfl ?_
  refine J_aload_n dX7_next_14 rfl ?_
  refine J_get jf_X7_73 dX7_next_15 hO2 hF2 ?_
  refine Jz_idivw jEq.rf dX7_next_18 (by omega) (fun y18  => ?_)
  refine Jz_iconst 0 dX7_next_19 (by decide) (fun y19 he19 => ?_)
  refine J_iload_n dX7_next_20 rfl ?_
  refine Jz_iconst 0 dX7_next_21 (by decide) (fun y21 he21 => ?_)
  refine J_callS3 moX7_stepY jw_ml_X7_115 jw_st_X7_stepY dX7_next_22 (w_X7_stepY (d - 1) _ y19 x2 y21 (by omega)   ) (by omega) (Nat.zero_le _) (Nat.zero_le _) (Nat.le_of_ble_eq_true rfl) (fun r22 V22 h22 => ?_)
  obtain ⟨⟨y22, rfl, hl22, hh22⟩, hE22⟩ := h22
  have hE22 := hE22.symm
  subst hE22
  refine Jz_iaddw dX7_next_25 (fun y25  => ?_)
  refine J_istore dX7_next_26 rfl (by decide) ?_
  refine J_iload_n dX7_next_28 rfl ?_
  refine Jz_iconst 0 dX7_next_29 (by decide) (fun y29 he29 => ?_)
  refine J_aload_n dX7_next_30 rfl ?_
  refine J_get jf_X7_73 dX7_next_31 hO2 hF2 ?_
  refine Jz_iconst 1 dX7_next_34 (by decide) (fun y34 he34 => ?_)
  refine Jz_isub jEq.rf he34 dX7_next_35 (by omega) (by omega) (fun y35 he35 => ?_)
  refine J_callS3 moX7_in jw_ml_X7_105 jw_st_X7_in dX7_next_36 (w_X7_in (d - 1) _ y11 y29 y35 (by omega)   ) (by omega) (Nat.zero_le _) (Nat.zero_le _) (Nat.le_of_ble_eq_true rfl) (fun r36 V36 h36 => ?_)
  obtain ⟨⟨y36, rfl, hl36, hh36, hI36_0, hI36_1⟩, hE36⟩ := h36
  have hE36 := hE36.symm
  subst hE36
  refine Jz_if_eq (tgt := 86) jEq.rf dX7_next_39 (by decide) (fun c39 => ?_) (fun c39 => ?_)
  · have q39_1 := hI36_1.of (by omega)
    try simp only [he29.eq, he35.eq] at q39_1
    refine Jz_iconst (-1) dX7_next_86 (by decide) (fun y86 he86 => ?_)
    exact J_ret (r := some (.int _)) dX7_next_87 ⟨rfl, _, rfl, rfl⟩ (⟨⟨_, rfl, (by (try simp only [he86.eq, true_and, and_true]) <;> omega), (by (try simp only [he86.eq, true_and, and_true]) <;> omega)⟩, rfl⟩)
  · have q39_0 := hI36_0.of (by omega)
    try simp only [he29.eq, he35.eq] at q39_0
    refine J_iload dX7_next_42 rfl ?_
    refine Jz_iconst 0 dX7_next_44 (by decide) (fun y44 he44 => ?_)
    refine J_aload_n dX7_next_45 rfl ?_
    obtain ⟨w46, hF46, y46, rfl, hl46, hh46⟩ := hK2.2 24 (.inl (2, 6)) rfl
    dsimp only at hl46 hh46
    refine J_get jf_X7_77 dX7_next_46 hO2 hF46 ?_
    refine Jz_iconst 1 dX7_next_49 (by decide) (fun y49 he49 => ?_)
    refine Jz_isub jEq.rf he49 dX7_next_50 (by omega) (by omega) (fun y50 he50 => ?_)
    refine J_callS3 moX7_in jw_ml_X7_105 jw_st_X7_in dX7_next_51 (w_X7_in (d - 1) _ y25 y44 y50 (by omega)   ) (by omega) (Nat.zero_le _) (Nat.zero_le _) (Nat.le_of_ble_eq_true rfl) (fun r51 V51 h51 => ?_)
    obtain ⟨⟨y51, rfl, hl51, hh51, hI51_0, hI51_1⟩, hE51⟩ := h51
    have hE51 := hE51.symm
    subst hE51
    refine Jz_if_eq (tgt := 86) jEq.rf dX7_next_54 (by decide) (fun c54 => ?_) (fun c54 => ?_)
    · have q54_1 := hI51_1.of (by omega)
      try simp only [he44.eq, he50.eq] at q54_1
      refine Jz_iconst (-1) dX7_next_86 (by decide) (fun y86 he86 => ?_)
      exact J_ret (r := some (.int _)) dX7_next_87 ⟨rfl, _, rfl, rfl⟩ (⟨⟨_, rfl, (by (try simp only [he86.eq, true_and, and_true]) <;> omega), (by (try simp only [he86.eq, true_and, and_true]) <;> omega)⟩, rfl⟩)
    · have q54_0 := hI51_0.of (by omega)
      try simp only [he44.eq, he50.eq] at q54_0
      refine J_aload_n dX7_next_57 rfl ?_
      obtain ⟨w58, hF58, b58, rfl, hb58⟩ := hK2.2 25 (.inr (some (.inl 43))) rfl
      refine J_get jf_X7_80 dX7_next_58 hO2 hF58 ?_
      refine J_iload_n dX7_next_61 rfl ?_
      refine J_aload_n dX7_next_62 rfl ?_
      refine J_get jf_X7_73 dX7_next_63 hO2 hF2 ?_
      refine J_iload dX7_next_66 rfl ?_
      refine Jz_imulB 5 jEq.rf jEq.rf dX7_next_68 (by omega) (by omega) (by omega) (by omega) (fun y68 he68 hf68 => ?_)
      refine Jz_iadd jEq.rf jEq.rf dX7_next_69 (by omega) (by omega) (fun y69 he69 => ?_)
      obtain ⟨n70, f70, hA70, hN70, hM70, hv70⟩ := WT_arrI (r := (0, 1)) hW id rfl hb58
      obtain rfl := hM70 36 rfl
      clear hN70 hM70
      refine Jz_zaldr (r := (0, 1)) he69 dX7_next_70 hA70 rfl hv70 (by omega) (by omega) (fun y70 hl70 hh70 => ?_)
      dsimp only at hl70 hh70
      refine Jz_if_ne (tgt := 86) jEq.rf dX7_next_71 (by decide) (fun c71 => ?_) (fun c71 => ?_)
      · refine Jz_iconst (-1) dX7_next_86 (by decide) (fun y86 he86 => ?_)
        exact J_ret (r := some (.int _)) dX7_next_87 ⟨rfl, _, rfl, rfl⟩ (⟨⟨_, rfl, (by (try simp only [he86.eq, true_and, and_true]) <;> omega), (by (try simp only [he86.eq, true_and, and_true]) <;> omega)⟩, rfl⟩)
      · refine J_iload_n dX7_next_74 rfl ?_
        refine J_aload_n dX7_next_75 rfl ?_
        refine J_get jf_X7_73 dX7_next_76 hO2 hF2 ?_
        refine J_iload dX7_next_79 rfl ?_
        refine Jz_imulB 5 jEq.rf jEq.rf dX7_next_81 (by omega) (by omega) (by omega) (by omega) (fun y81 he81 hf81 => ?_)
        refine Jz_iadd jEq.rf jEq.rf dX7_next_82 (by omega) (by omega) (fun y82 he82 => ?_)
        refine J_goto (tgt := 87) dX7_next_83 (by decide) ?_
        exact J_ret (r := some (.int _)) dX7_next_87 ⟨rfl, _, rfl, rfl⟩ (⟨⟨_, rfl, (by (try simp only [he82.eq, true_and, and_true]) <;> omega), (by (try simp only [he82.eq, true_and, and_true]) <;> omega)⟩, rfl⟩)
set_option maxRecDepth 100000 in
set_option maxHeartbeats 8000000 in
theorem w_X7_countWays {tS : jTS} (d : Nat) (V0 : jH) (a0 : Nat) (hd : 2 ≤ d) (hW : WT V0) (ha0 : jis V0 (.inr 5) a0) : jTot tS mX7_countWays d [.ref a0] V0 0 0 (fun r V => (jPost [.inr 5, .inl 30, .inl 44, .inl 31, .inl 32] V0 rV) r V ∧ jkc 5 [0, 23, 24] V0 V) := by
  refine jTot.of_J [some (.ref a0), none, none, none, none] moX7_countWays (Nat.le_of_ble_eq_true rfl) rfl ?_
  have he : jeff [.inr 5, .inl 30, .inl 44, .inl 31, .inl 32] V0 V0 := jeff.refl _ _
  have hkp : jkc 5 [0, 23, 24] V0 V0 := jkc.rf
  refine J_aload_n dX7_countWays_0 rfl ?_
  obtain ⟨fs1, hO1, hK1⟩ := WT_obj hW id ha0
  obtain ⟨w1, hF1, y1, rfl, hl1, hh1⟩ := hK1.2 26 (.inl (0, 1)) rfl
  dsimp only at hl1 hh1
  refine J_get jf_X7_214 dX7_countWays_1 hO1 hF1 ?_
  refine Jz_if_eq (tgt := 8) jEq.rf dX7_countWays_4 (by decide) (fun c4 => ?_) (fun c4 => ?_)
  · refine J_aload_n dX7_countWays_8 rfl ?_
    refine Jz_iconst 1 dX7_countWays_9 (by decide) (fun y9 he9 => ?_)
    refine Jz_putI hO1 hW id rfl jf_X7_214 jt_X7_26 he9 dX7_countWays_10 (by omega) (by omega) (fun _ h => ⟨nar_b (by omega) (by omega), fit_b (by omega) (by omega)⟩) (fun V10 fs10 hW hx10 hO10 hS10 hT10 hB10 => ?_)
    have hK10 : jokO _ (jFs 5) fs10 := hW _ _ id hO10
    have he := he.trans (hx10.sub (jsub_of rfl))
    have hkp := hkp.trans (jkc.put hO1 hO10 hT10 hB10 (by decide))
    have ha0 := ha0.mono hx10.1
    refine J_aload_n dX7_countWays_13 rfl ?_
    refine Jz_iconst 0 dX7_countWays_14 (by decide) (fun y14 he14 => ?_)
    refine Jz_putI hO10 hW id rfl jf_X7_218 jt_X7_27 he14 dX7_countWays_15 (by omega) (by omega) (fun _ h => ⟨nar_b (by omega) (by omega), fit_b (by omega) (by omega)⟩) (fun V15 fs15 hW hx15 hO15 hS15 hT15 hB15 => ?_)
    have hK15 : jokO _ (jFs 5) fs15 := hW _ _ id hO15
    have hF15_26 := (hT15 26 (by decide)).trans hS10
    have he := he.trans (hx15.sub (jsub_of rfl))
    have hkp := hkp.trans (jkc.put hO10 hO15 hT15 hB15 (by decide))
    have ha0 := ha0.mono hx15.1
    refine J_aload_n dX7_countWays_18 rfl ?_
    refine Jz_iconst 0 dX7_countWays_19 (by decide) (fun y19 he19 => ?_)
    refine Jz_putI hO15 hW id rfl jf_X7_221 jt_X7_28 he19 dX7_countWays_20 (by omega) (by omega) (fun _ _ => ⟨rfl, rfl⟩) (fun V20 fs20 hW hx20 hO20 hS20 hT20 hB20 => ?_)
    have hK20 : jokO _ (jFs 5) fs20 := hW _ _ id hO20
    have hF20_27 := (hT20 27 (by decide)).trans hS15
    have hF20_26 := (hT20 26 (by decide)).trans hF15_26
    have he := he.trans (hx20.sub (jsub_of rfl))
    have hkp := hkp.trans (jkc.put hO15 hO20 hT20 hB20 (by decide))
    have ha0 := ha0.mono hx20.1
    refine Jz_iconst 0 dX7_countWays_23 (by decide) (fun y23 he23 => ?_)
    refine J_istore_n dX7_countWays_24 rfl (by decide) ?_
    obtain ⟨w25t30, hF25t30, b25t30, rfl, hb25t30⟩ := hK20.2 30 (.inr (some (.inl 44))) rfl
    obtain ⟨n25tb25t30, f25tb25t30, hA25tb25t30, hN25tb25t30, hM25tb25t30, hv25tb25t30⟩ := WT_arrI (r := (0, 1)) hW id rfl hb25t30
    obtain rfl := hM25tb25t30 36 rfl
    clear hN25tb25t30 hM25tb25t30
    have L25 : ∀ (N : Nat) (V : jH) (i1n25 : Int32) (F44n25 : Nat → Int32), WT V → jeff [.inr 5, .inl 30, .inl 44, .inl 31, .inl 32] V0 V → (jis V (.inr 5) a0) → (jis V (.inl 44) b25t30) → (jkc 5 [0, 23, 24] V0 V) → (V a0 = some (.inr (5, fs20))) → (jokO V (jFs 5) fs20) → (V b25t30 = some (.inl (44, 36, .inl F44n25))) → (0 ≤ i1n25.toInt) → (∀ k : Nat, (k : Int) < i1n25.toInt → (F44n25 k).toInt = 0) → (300 - i1n25.toInt).toNat < N → J tS mX7_countWays d 25 [some (.ref a0), some (.int i1n25), none, none, none] [] V 0 0 (fun r V => (jPost [.inr 5, .inl 30, .inl 44, .inl 31, .inl 32] V0 rV) r V ∧ jkc 5 [0, 23, 24] V0 V) := by
      intro N
      induction N with
      | zero => intro V i1n25 F44n25 hW he ha0 hb25t30 hkp hO20 hK20 hAF44n25 hi1 hz hm; exact absurd hm (Nat.not_lt_zero _)
      | succ N ih =>
        intro V i1n25 F44n25 hW he ha0 hb25t30 hkp hO20 hK20 hAF44n25 hi1 hz hm
        have ih25 := ih
        have hri1 := j_rng i1n25
        obtain ⟨hNF44n25, hvF44n25⟩ := WT_rngI (r := (0, 1)) hW id rfl hAF44n25
        clear hNF44n25
        refine J_iload_n dX7_countWays_25 rfl ?_
        refine Jz_bipush 36 dX7_countWays_26 (by decide) (fun y26 he26 => ?_)
        refine Jz_icmp_ge (tgt := 51) jEq.rf he26 dX7_countWays_28 (by decide) (fun c28 => ?_) (fun c28 => ?_)
        · refine Jz_iconst 0 dX7_countWays_51 (by decide) (fun y51 he51 => ?_)
          refine J_istore_n dX7_countWays_52 rfl (by decide) ?_
          refine Jz_iconst 0 dX7_countWays_53 (by decide) (fun y53 he53 => ?_)
          refine J_istore_n dX7_countWays_54 rfl (by decide) ?_
          refine J_aload_n dX7_countWays_55 rfl ?_
          refine Jw_callV0 (q9 := (RX7, TX7, 34)) moX7_open jw_ml_X7_224 jw_im_X7_open jw_se_X7_open ha0 rfl rfl dX7_countWays_56 (w_X7_open (d - 1) _ a0 (by omega) hW  ha0) (by omega) (Nat.zero_le _) (Nat.zero_le _) (Nat.le_of_ble_eq_true rfl) (fun r56 V56 h56 => ?_)
          obtain ⟨⟨y56, rfl, hl56, hh56⟩, hE56⟩ := h56
          have hE56 := hE56.symm
          subst hE56
          clear hl56 hh56
          refine J_istore_n dX7_countWays_59 rfl (by decide) ?_
          refine J_aload_n dX7_countWays_60 rfl ?_
          obtain ⟨w61, hF61, b61, rfl, hb61⟩ := hK20.2 31 (.inr (some (.inl 31))) rfl
          refine J_get jf_X7_89 dX7_countWays_61 hO20 hF61 ?_
          refine Jz_iconst 0 dX7_countWays_64 (by decide) (fun y64 he64 => ?_)
          refine Jz_iconst 0 dX7_countWays_65 (by decide) (fun y65 he65 => ?_)
          obtain ⟨n66, f66, hA66, hN66, hM66, hv66⟩ := WT_arrI (r := (0, 35)) hW id rfl hb61
          obtain rfl := hM66 37 rfl
          clear hN66 hM66
          refine Jz_iast (r := (0, 35)) he64 he65 hW id dX7_countWays_66 hA66 rfl rfl (by omega) (by omega) (by omega) (by omega) (fun V66 G66 hW hx66 hA66 hp66 ho66 => ?_)
          obtain ⟨hN66, hv66⟩ := WT_rngI (r := (0, 35)) hW id rfl hA66
          clear hN66
          have he := he.trans (hx66.sub (jsub_of rfl))
          have hkp := hkp.trans (jkc.of hx66 (jnot_of rfl))
          have ha0 := ha0.mono hx66.1
          have hb25t30 := hb25t30.mono hx66.1
          have hb61 := hb61.mono hx66.1
          have hO20 := hx66.2 _ _ hO20 (jnot_of rfl)
          have hK20 := hK20.mono hx66.1
          have hAF44n25 := hx66.2 _ _ hAF44n25 (jnot_of rfl)
          refine J_aload_n dX7_countWays_67 rfl ?_
          refine J_get jf_X7_86 dX7_countWays_68 hO20 hF25t30 ?_
          refine Jz_iconst 0 dX7_countWays_71 (by decide) (fun y71 he71 => ?_)
          refine Jz_iconst 1 dX7_countWays_72 (by decide) (fun y72 he72 => ?_)
          refine Jz_zast (r := (0, 1)) he71 he72 hW id dX7_countWays_73 hAF44n25 rfl rfl (by omega) (by omega) (by omega) (by omega) (fun _ h => vp_nar_b (by omega) (by omega)) (fun V73 G73 hW hx73 hA73 hp73 ho73 => ?_)
          obtain ⟨hN73, hv73⟩ := WT_rngI (r := (0, 1)) hW id rfl hA73
          clear hN73
          have he := he.trans (hx73.sub (jsub_of rfl))
          have hkp := hkp.trans (jkc.of hx73 (jnot_of rfl))
          have ha0 := ha0.mono hx73.1
          have hb25t30 := hb25t30.mono hx73.1
          have hb61 := hb61.mono hx73.1
          have hO20 := hx73.2 _ _ hO20 (jnot_of rfl)
          have hK20 := hK20.mono hx73.1
          have hA66 := hx73.2 _ _ hA66 (jnot_of rfl)
          refine J_aload_n dX7_countWays_74 rfl ?_
          obtain ⟨w75, hF75, b75, rfl, hb75⟩ := hK20.2 32 (.inr (some (.inl 32))) rfl
          refine J_get jf_X7_92 dX7_countWays_75 hO20 hF75 ?_
          refine Jz_iconst 0 dX7_countWays_78 (by decide) (fun y78 he78 => ?_)
          refine Jz_iconst (-1) dX7_countWays_79 (by decide) (fun y79 he79 => ?_)
          obtain ⟨n80, f80, hA80, hN80, hM80, hv80⟩ := WT_arrI (r := (-1, 4)) hW id rfl hb75
          obtain rfl := hM80 37 rfl
          clear hN80 hM80
          refine Jz_iast (r := ((-1), 4)) he78 he79 hW id dX7_countWays_80 hA80 rfl rfl (by omega) (by omega) (by omega) (by omega) (fun V80 G80 hW hx80 hA80 hp80 ho80 => ?_)
          obtain ⟨hN80, hv80⟩ := WT_rngI (r := ((-1), 4)) hW id rfl hA80
          clear hN80
          have he := he.trans (hx80.sub (jsub_of rfl))
          have hkp := hkp.trans (jkc.of hx80 (jnot_of rfl))
          have ha0 := ha0.mono hx80.1
          have hb25t30 := hb25t30.mono hx80.1
          have hb61 := hb61.mono hx80.1
          have hb75 := hb75.mono hx80.1
          have hO20 := hx80.2 _ _ hO20 (jnot_of rfl)
          have hK20 := hK20.mono hx80.1
          have hA66 := hx80.2 _ _ hA66 (jnot_of rfl)
          have hA73 := hx80.2 _ _ hA73 (jnot_of rfl)
          have L81 : ∀ (N : Nat) (V : jH) (i1n81 : Int32) (i2n81 : Int32) (gs81a0 : List Value) (F44n81 : Nat → Int32) (F31n81 : Nat → Int32) (F32n81 : Nat → Int32), WT V → jeff [.inr 5, .inl 30, .inl 44, .inl 31, .inl 32] V0 V → (jis V (.inr 5) a0) → (jis V (.inl 44) b25t30) → (jis V (.inl 31) b61) → (jis V (.inl 32) b75) → (jkc 5 [0, 23, 24] V0 V) → (V a0 = some (.inr (5, gs81a0))) → (gs81a0[30]? = some (.ref b25t30)) → (gs81a0[31]? = some (.ref b61)) → (gs81a0[32]? = some (.ref b75)) → (V b25t30 = some (.inl (44, 36, .inl F44n81))) → (V b61 = some (.inl (31, 37, .inl F31n81))) → (V b75 = some (.inl (32, 37, .inl F32n81))) → (-1 ≤ i2n81.toInt ∧ i2n81.toInt ≤ 35) → (0 ≤ i1n81.toInt ∧ i1n81.toInt ≤ 600000) → (∀ k : Nat, (k : Int) ≤ i2n81.toInt → -1 ≤ (F32n81 k).toInt ∧ (F32n81 k).toInt ≤ 3) → (∀ k : Nat, (k : Int) ≤ i2n81.toInt → 0 ≤ (F31n81 k).toInt ∧ (F31n81 k).toInt ≤ 35 ∧ ¬ (F44n81 (F31n81 k).toInt.toNat).toInt = 0) → (∀ i j : Nat, i < j → (j : Int) ≤ i2n81.toInt → ¬ (F31n81 i).toInt = (F31n81 j).toInt) → ((jcn 0 F44n81 36 : Int) = i2n81.toInt + 1) → ((600001 - i1n81.toInt) * 1000 + (i2n81.toInt + 1) * 10 + (7 - (F32n81 i2n81.toInt.toNat).toInt)).toNat < N → J tS mX7_countWays d 81 [some (.ref a0), some (.int i1n81), some (.int i2n81), some (.int y56), none] [] V 0 0 (fun r V => (jPost [.inr 5, .inl 30, .inl 44, .inl 31, .inl 32] V0 rV) r V ∧ jkc 5 [0, 23, 24] V0 V) := by
            intro N
            induction N with
            | zero => intro V i1n81 i2n81 gs81a0 F44n81 F31n81 F32n81 hW he ha0 hb25t30 hb61 hb75 hkp hOgs81a0 hFgs81a0_30 hFgs81a0_31 hFgs81a0_32 hAF44n81 hAF31n81 hAF32n81 hd hall htry hway hdis hcnt hm; exact absurd hm (Nat.not_lt_zero _)
            | succ N ih =>
              intro V i1n81 i2n81 gs81a0 F44n81 F31n81 F32n81 hW he ha0 hb25t30 hb61 hb75 hkp hOgs81a0 hFgs81a0_30 hFgs81a0_31 hFgs81a0_32 hAF44n81 hAF31n81 hAF32n81 hd hall htry hway hdis hcnt hm
              have ih81 := ih
              have hri1 := j_rng i1n81
              have hri2 := j_rng i2n81
              have hKgs81a0 : jokO V (jFs 5) gs81a0 := hW _ _ id hOgs81a0
              obtain ⟨hNF44n81, hvF44n81⟩ := WT_rngI (r := (0, 1)) hW id rfl hAF44n81
              clear hNF44n81
              obtain ⟨hNF31n81, hvF31n81⟩ := WT_rngI (r := (0, 35)) hW id rfl hAF31n81
              clear hNF31n81
              obtain ⟨hNF32n81, hvF32n81⟩ := WT_rngI (r := ((-1), 4)) hW id rfl hAF32n81
              clear hNF32n81
              refine J_iload_n dX7_countWays_81 rfl ?_
              refine Jz_if_lt (tgt := 248) jEq.rf dX7_countWays_82 (by decide) (fun c82 => ?_) (fun c82 => ?_)
              · exact J_ret (r := none) dX7_countWays_248 ⟨rfl, rfl⟩ (⟨⟨hW, he, rfl⟩, hkp⟩)
              · refine J_aload_n dX7_countWays_85 rfl ?_
                refine J_get jf_X7_92 dX7_countWays_86 hOgs81a0 hFgs81a0_32 ?_
                refine J_iload_n dX7_countWays_89 rfl ?_
                refine J_dup2 dX7_countWays_90 rfl rfl ?_
                refine Jz_iald (r := ((-1), 4)) jEq.rf dX7_countWays_91 hAF32n81 rfl hvF32n81 (by omega) (by omega) (fun y91 hf91 hl91 hh91 => ?_)
                dsimp only at hl91 hh91
                have hb91 := htry i2n81.toInt.toNat (by omega)
                rw [hf91] at hb91
                refine Jz_iconst 1 dX7_countWays_92 (by decide) (fun y92 he92 => ?_)
                refine Jz_iadd jEq.rf he92 dX7_countWays_93 (by omega) (by omega) (fun y93 he93 => ?_)
                refine Jz_iast (r := ((-1), 4)) jEq.rf he93 hW id dX7_countWays_94 hAF32n81 rfl rfl (by omega) (by omega) (by omega) (by omega) (fun V94 G94 hW hx94 hA94 hp94 ho94 => ?_)
                obtain ⟨hN94, hv94⟩ := WT_rngI (r := ((-1), 4)) hW id rfl hA94
                clear hN94
                have he := he.trans (hx94.sub (jsub_of rfl))
                have hkp := hkp.trans (jkc.of hx94 (jnot_of rfl))
                have ha0 := ha0.mono hx94.1
                have hb25t30 := hb25t30.mono hx94.1
                have hb61 := hb61.mono hx94.1
                have hb75 := hb75.mono hx94.1
                have hOgs81a0 := hx94.2 _ _ hOgs81a0 (jnot_of rfl)
                have hKgs81a0 := hKgs81a0.mono hx94.1
                have hAF44n81 := hx94.2 _ _ hAF44n81 (jnot_of rfl)
                have hAF31n81 := hx94.2 _ _ hAF31n81 (jnot_of rfl)
                refine J_aload_n dX7_countWays_95 rfl ?_
                refine J_get jf_X7_92 dX7_countWays_96 hOgs81a0 hFgs81a0_32 ?_
                refine J_iload_n dX7_countWays_99 rfl ?_
                refine Jz_iald (r := ((-1), 4)) jEq.rf dX7_countWays_100 hA94 rfl hv94 (by omega) (by omega) (fun y100 hf100 hl100 hh100 => ?_)
                dsimp only at hl100 hh100
                clear hl100 hh100
                have he100 : jEq y100.toInt (y91.toInt + 1) := by rw [← hf100, hp94]; exact he93
                refine Jz_iconst 4 dX7_countWays_101 (by decide) (fun y101 he101 => ?_)
                refine Jz_icmp_ne (tgt := 123) he100 he101 dX7_countWays_102 (by decide) (fun c102 => ?_) (fun c102 => ?_)
                · refine J_aload_n dX7_countWays_123 rfl ?_
                  refine J_aload_n dX7_countWays_124 rfl ?_
                  refine J_get jf_X7_89 dX7_countWays_125 hOgs81a0 hFgs81a0_31 ?_
                  refine J_iload_n dX7_countWays_128 rfl ?_
                  refine Jz_iald (r := (0, 35)) jEq.rf dX7_countWays_129 hAF31n81 rfl hvF31n81 (by omega) (by omega) (fun y129 hf129 hl129 hh129 => ?_)
                  dsimp only at hl129 hh129
                  have hb129 := hway i2n81.toInt.toNat (by omega)
                  rw [hf129] at hb129
                  refine J_aload_n dX7_countWays_130 rfl ?_
                  refine J_get jf_X7_92 dX7_countWays_131 hOgs81a0 hFgs81a0_32 ?_
                  refine J_iload_n dX7_countWays_134 rfl ?_
                  refine Jz_iald (r := ((-1), 4)) jEq.rf dX7_countWays_135 hA94 rfl hv94 (by omega) (by omega) (fun y135 hf135 hl135 hh135 => ?_)
                  dsimp only at hl135 hh135
                  clear hl135 hh135
                  have he135 : jEq y135.toInt (y91.toInt + 1) := by rw [← hf135, hp94]; exact he93
                  refine Jw_callV2 (q9 := (RX7, TX7, 34)) moX7_next jw_ml_X7_227 jw_im_X7_next jw_se_X7_next ha0 rfl rfl dX7_countWays_136 (w_X7_next (d - 1) _ a0 y129 y135 (by omega) hW  ha0) (by omega) (Nat.zero_le _) (Nat.zero_le _) (Nat.le_of_ble_eq_true rfl) (fun r136 V136 h136 => ?_)
                  obtain ⟨⟨y136, rfl, hl136, hh136⟩, hE136⟩ := h136
                  have hE136 := hE136.symm
                  subst hE136
                  refine J_istore dX7_countWays_139 rfl (by decide) ?_
                  refine J_iload dX7_countWays_141 rfl ?_
                  refine Jz_iconst (-1) dX7_countWays_143 (by decide) (fun y143 he143 => ?_)
                  refine Jz_icmp_eq (tgt := 245) jEq.rf he143 dX7_countWays_144 (by decide) (fun c144 => ?_) (fun c144 => ?_)
                  · refine J_goto (tgt := 81) dX7_countWays_245 (by decide) ?_
                    have hm0 : (F32n81 i2n81.toInt.toNat).toInt = y91.toInt := by rw [hf91]
                    have hm1 : (G94 i2n81.toInt.toNat).toInt = y91.toInt + 1 := by rw [hp94, he93.eq]
                    refine J.mask [true, true, true, true, false] ?_
                    exact ih81 _ i1n81 i2n81 gs81a0 F44n81 F31n81 G94 hW he ha0 hb25t30 hb61 hb75 hkp hOgs81a0 hFgs81a0_30 hFgs81a0_31 hFgs81a0_32 hAF44n81 hAF31n81 hA94 (by omega) (by omega) (fun k hk => (Nat.decEq k i2n81.toInt.toNat).byCases (fun hq => by rw [hq, hp94, he93.eq]; omega) (fun hq => by rw [ho94 k hq]; exact htry k (by omega))) hway hdis (by omega) (by omega)
                  · refine J_aload_n dX7_countWays_147 rfl ?_
                    refine J_get jf_X7_86 dX7_countWays_148 hOgs81a0 hFgs81a0_30 ?_
                    refine J_iload dX7_countWays_151 rfl ?_
                    refine Jz_zald (r := (0, 1)) jEq.rf dX7_countWays_153 hAF44n81 rfl hvF44n81 (by omega) (by omega) (fun y153 hf153 hl153 hh153 => ?_)
                    dsimp only at hl153 hh153
                    refine Jz_if_ne (tgt := 245) jEq.rf dX7_countWays_154 (by decide) (fun c154 => ?_) (fun c154 => ?_)
                    · refine J_goto (tgt := 81) dX7_countWays_245 (by decide) ?_
                      have hm0 : (F32n81 i2n81.toInt.toNat).toInt = y91.toInt := by rw [hf91]
                      have hm1 : (G94 i2n81.toInt.toNat).toInt = y91.toInt + 1 := by rw [hp94, he93.eq]
                      refine J.mask [true, true, true, true, false] ?_
                      exact ih81 _ i1n81 i2n81 gs81a0 F44n81 F31n81 G94 hW he ha0 hb25t30 hb61 hb75 hkp hOgs81a0 hFgs81a0_30 hFgs81a0_31 hFgs81a0_32 hAF44n81 hAF31n81 hA94 (by omega) (by omega) (fun k hk => (Nat.decEq k i2n81.toInt.toNat).byCases (fun hq => by rw [hq, hp94, he93.eq]; omega) (fun hq => by rw [ho94 k hq]; exact htry k (by omega))) hway hdis (by omega) (by omega)
                    · have hlt := jcn_lt (c := 0) (F := F44n81) (k := y136.toInt.toNat) (by rw [hf153]; exact c154) 36 (by omega)
                      refine Jz_iinc 1 dX7_countWays_157 rfl rfl (by decide) jEq.rf (by decide) (by omega) (by omega) (fun y157 he157 => ?_)
                      refine J_iload_n dX7_countWays_160 rfl ?_
                      refine Jz_ldc 600000 jw_k_X7_180 dX7_countWays_161 (by decide) (fun y161 he161 => ?_)
                      refine Jz_icmp_le (tgt := 172) he157 he161 dX7_countWays_163 (by decide) (fun c163 => ?_) (fun c163 => ?_)
                      · refine Jz_iinc 1 dX7_countWays_172 rfl rfl (by decide) jEq.rf (by decide) (by omega) (by omega) (fun y172 he172 => ?_)
                        refine J_aload_n dX7_countWays_175 rfl ?_
                        refine J_get jf_X7_89 dX7_countWays_176 hOgs81a0 hFgs81a0_31 ?_
                        refine J_iload_n dX7_countWays_179 rfl ?_
                        refine J_iload dX7_countWays_180 rfl ?_
                        refine Jz_iast (r := (0, 35)) he172 jEq.rf hW id dX7_countWays_182 hAF31n81 rfl rfl (by omega) (by omega) (by omega) (by omega) (fun V182 G182 hW hx182 hA182 hp182 ho182 => ?_)
                        obtain ⟨hN182, hv182⟩ := WT_rngI (r := (0, 35)) hW id rfl hA182
                        clear hN182
                        have he := he.trans (hx182.sub (jsub_of rfl))
                        have hkp := hkp.trans (jkc.of hx182 (jnot_of rfl))
                        have ha0 := ha0.mono hx182.1
                        have hb25t30 := hb25t30.mono hx182.1
                        have hb61 := hb61.mono hx182.1
                        have hb75 := hb75.mono hx182.1
                        have hOgs81a0 := hx182.2 _ _ hOgs81a0 (jnot_of rfl)
                        have hKgs81a0 := hKgs81a0.mono hx182.1
                        have hAF44n81 := hx182.2 _ _ hAF44n81 (jnot_of rfl)
                        have hA94 := hx182.2 _ _ hA94 (jnot_of rfl)
                        refine J_aload_n dX7_countWays_183 rfl ?_
                        refine J_get jf_X7_86 dX7_countWays_184 hOgs81a0 hFgs81a0_30 ?_
                        refine J_iload dX7_countWays_187 rfl ?_
                        refine Jz_iconst 1 dX7_countWays_189 (by decide) (fun y189 he189 => ?_)
                        refine Jz_zast (r := (0, 1)) jEq.rf he189 hW id dX7_countWays_190 hAF44n81 rfl rfl (by omega) (by omega) (by omega) (by omega) (fun _ h => vp_nar_b (by omega) (by omega)) (fun V190 G190 hW hx190 hA190 hp190 ho190 => ?_)
                        obtain ⟨hN190, hv190⟩ := WT_rngI (r := (0, 1)) hW id rfl hA190
                        clear hN190
                        have he := he.trans (hx190.sub (jsub_of rfl))
                        have hkp := hkp.trans (jkc.of hx190 (jnot_of rfl))
                        have ha0 := ha0.mono hx190.1
                        have hb25t30 := hb25t30.mono hx190.1
                        have hb61 := hb61.mono hx190.1
                        have hb75 := hb75.mono hx190.1
                        have hOgs81a0 := hx190.2 _ _ hOgs81a0 (jnot_of rfl)
                        have hKgs81a0 := hKgs81a0.mono hx190.1
                        have hA94 := hx190.2 _ _ hA94 (jnot_of rfl)
                        have hA182 := hx190.2 _ _ hA182 (jnot_of rfl)
                        refine J_aload_n dX7_countWays_191 rfl ?_
                        refine J_get jf_X7_92 dX7_countWays_192 hOgs81a0 hFgs81a0_32 ?_
                        refine J_iload_n dX7_countWays_195 rfl ?_
                        refine Jz_iconst (-1) dX7_countWays_196 (by decide) (fun y196 he196 => ?_)
                        refine Jz_iast (r := ((-1), 4)) he172 he196 hW id dX7_countWays_197 hA94 rfl rfl (by omega) (by omega) (by omega) (by omega) (fun V197 G197 hW hx197 hA197 hp197 ho197 => ?_)
                        obtain ⟨hN197, hv197⟩ := WT_rngI (r := ((-1), 4)) hW id rfl hA197
                        clear hN197
                        have he := he.trans (hx197.sub (jsub_of rfl))
                        have hkp := hkp.trans (jkc.of hx197 (jnot_of rfl))
                        have ha0 := ha0.mono hx197.1
                        have hb25t30 := hb25t30.mono hx197.1
                        have hb61 := hb61.mono hx197.1
                        have hb75 := hb75.mono hx197.1
                        have hOgs81a0 := hx197.2 _ _ hOgs81a0 (jnot_of rfl)
                        have hKgs81a0 := hKgs81a0.mono hx197.1
                        have hA182 := hx197.2 _ _ hA182 (jnot_of rfl)
                        have hA190 := hx197.2 _ _ hA190 (jnot_of rfl)
                        refine J_iload dX7_countWays_198 rfl ?_
                        refine J_aload_n dX7_countWays_200 rfl ?_
                        obtain ⟨w201, hF201, y201, rfl, hl201, hh201⟩ := hKgs81a0.2 23 (.inl (2, 6)) rfl
                        dsimp only at hl201 hh201
                        refine J_get jf_X7_73 dX7_countWays_201 hOgs81a0 hF201 ?_
                        refine J_aload_n dX7_countWays_204 rfl ?_
                        obtain ⟨w205, hF205, y205, rfl, hl205, hh205⟩ := hKgs81a0.2 24 (.inl (2, 6)) rfl
                        dsimp only at hl205 hh205
                        refine J_get jf_X7_77 dX7_countWays_205 hOgs81a0 hF205 ?_
                        refine Jz_imulM 6 jEq.rf jEq.rf dX7_countWays_208 (by omega) (by omega) (by omega) (by omega) (fun y208 he208 hf208 => ?_)
                        refine Jz_iconst 1 dX7_countWays_209 (by decide) (fun y209 he209 => ?_)
                        refine Jz_isub jEq.rf he209 dX7_countWays_210 (by omega) (by omega) (fun y210 he210 => ?_)
                        refine Jz_icmp_ne (tgt := 245) jEq.rf he210 dX7_countWays_211 (by decide) (fun c211 => ?_) (fun c211 => ?_)
                        · refine J_goto (tgt := 81) dX7_countWays_245 (by decide) ?_
                          have hm0 : (F32n81 i2n81.toInt.toNat).toInt = y91.toInt := by rw [hf91]
                          have hm1 : (G197 (i2n81.toInt + 1).toNat).toInt = -1 := by rw [hp197, he196.eq]
                          have hup := jcn_up (c := 0) (show (F44n81 y136.toInt.toNat).toInt = 0 by rw [hf153]; exact c154) (by rw [hp190, he189.eq]; decide) ho190 36 (by omega)
                          refine J.mask [true, true, true, true, false] ?_
                          exact ih81 _ y157 y172 gs81a0 G190 G182 G197 hW he ha0 hb25t30 hb61 hb75 hkp hOgs81a0 hFgs81a0_30 hFgs81a0_31 hFgs81a0_32 hA190 hA182 hA197 (by (try simp only [he157.eq, he172.eq, true_and, and_true]) <;> omega) (by (try simp only [he157.eq, he172.eq, true_and, and_true]) <;> omega) (fun k hk => by rw [he172.eq] at hk; exact (Nat.decEq k (i2n81.toInt + 1).toNat).byCases (fun hq => by rw [hq, hp197, he196.eq]; omega) (fun hq => by rw [ho197 k hq]; exact (Nat.decEq k i2n81.toInt.toNat).byCases (fun hq => by rw [hq, hp94, he93.eq]; omega) (fun hq => by rw [ho94 k hq]; exact htry k (by omega)))) (fun k hk => by rw [he172.eq] at hk; exact (Nat.decEq k (i2n81.toInt + 1).toNat).byCases (fun hq => by rw [hq, hp182, hp190, he189.eq]; omega) (fun hq => by rw [ho182 k hq]; have h1 := hway k (by omega); exact ⟨h1.1, h1.2.1, (Nat.decEq (F31n81 k).toInt.toNat y136.toInt.toNat).byCases (fun h9 => by rw [h9, hp190, he189.eq]; decide) (fun h9 => by rw [ho190 _ h9]; exact h1.2.2)⟩)) (fun i j h1 h2 => by rw [he172.eq] at h2; exact (Nat.decEq j (i2n81.toInt + 1).toNat).byCases (fun hq => by rw [hq, hp182, ho182 i (by omega)]; intro h9; have h3 := (hway i (by omega)).2.2; rw [h9, hf153] at h3; exact h3 c154) (fun hq => by rw [ho182 j hq, ho182 i (by omega)]; exact hdis i j h1 (by omega))) (by (try simp only [he157.eq, he172.eq, true_and, and_true]) <;> omega) (by (try simp only [he157.eq, he172.eq, true_and, and_true]) <;> omega)
                        · refine J_aload_n dX7_countWays_214 rfl ?_
                          obtain ⟨w215, hF215, b215, rfl, hb215⟩ := hKgs81a0.2 29 (.inr (some (.inl 30))) rfl
                          refine J_get jf_X7_83 dX7_countWays_215 hOgs81a0 hF215 ?_
                          refine J_iload_n dX7_countWays_218 rfl ?_
                          refine J_dup2 dX7_countWays_219 rfl rfl ?_
                          obtain ⟨n220, f220, hA220, hN220, hM220, hv220⟩ := WT_arrI (r := (-2147483648, 2147483647)) hW id rfl hb215
                          obtain rfl := hM220 36 rfl
                          clear hN220 hM220
                          refine Jz_ialdw he172 dX7_countWays_220 hA220 rfl (by omega) (by omega) (fun y220 => ?_)
                          refine Jz_iconst 1 dX7_countWays_221 (by decide) (fun y221 he221 => ?_)
                          refine Jz_iaddw dX7_countWays_222 (fun y222  => ?_)
                          refine Jz_iastw (r := ((-2147483648), 2147483647)) he172 jEq.rf hW id dX7_countWays_223 hA220 rfl rfl (by omega) (by omega) (j_rng _).1 (j_rng _).2 (fun V223 hW hx223 => ?_)
                          have he := he.trans (hx223.sub (jsub_of rfl))
                          have hkp := hkp.trans (jkc.of hx223 (jnot_of rfl))
                          have ha0 := ha0.mono hx223.1
                          have hb25t30 := hb25t30.mono hx223.1
                          have hb61 := hb61.mono hx223.1
                          have hb75 := hb75.mono hx223.1
                          have hb215 := hb215.mono hx223.1
                          have hOgs81a0 := hx223.2 _ _ hOgs81a0 (jnot_of rfl)
                          have hKgs81a0 := hKgs81a0.mono hx223.1
                          have hA182 := hx223.2 _ _ hA182 (jnot_of rfl)
                          have hA190 := hx223.2 _ _ hA190 (jnot_of rfl)
                          have hA197 := hx223.2 _ _ hA197 (jnot_of rfl)
                          refine J_aload_n dX7_countWays_224 rfl ?_
                          refine J_dup dX7_countWays_225 rfl ?_
                          obtain ⟨w226, hF226, y226, rfl, hl226, hh226⟩ := hKgs81a0.2 28 (.inl ((-2147483648), 2147483647)) rfl
                          dsimp only at hl226 hh226
                          refine J_get jf_X7_221 dX7_countWays_226 hOgs81a0 hF226 ?_
                          refine J_iload_n dX7_countWays_229 rfl ?_
                          refine Jz_iconst 1 dX7_countWays_230 (by decide) (fun y230 he230 => ?_)
                          refine Jz_iadd he172 he230 dX7_countWays_231 (by omega) (by omega) (fun y231 he231 => ?_)
                          refine J_iload_n dX7_countWays_232 rfl ?_
                          have K241 : ∀ (t0k241 : Int32), J tS mX7_countWays d 241 [some (.ref a0), some (.int y157), some (.int y172), some (.int y56), some (.int y136)] [.int t0k241, .int y226, .ref a0] V223 0 0 (fun r V => (jPost [.inr 5, .inl 30, .inl 44, .inl 31, .inl 32] V0 rV) r V ∧ jkc 5 [0, 23, 24] V0 V) := by
                            intro  t0k241     
                            refine Jz_iaddw dX7_countWays_241 (fun y241  => ?_)
                            refine Jz_putI hOgs81a0 hW id rfl jf_X7_221 jt_X7_28 jEq.rf dX7_countWays_242 (j_rng _).1 (j_rng _).2 (fun _ _ => ⟨rfl, rfl⟩) (fun V242 fs242 hW hx242 hO242 hS242 hT242 hB242 => ?_)
                            have hK242 : jokO _ (jFs 5) fs242 := hW _ _ id hO242
                            have hF242_30 := (hT242 30 (by decide)).trans hFgs81a0_30
                            have hF242_31 := (hT242 31 (by decide)).trans hFgs81a0_31
                            have hF242_32 := (hT242 32 (by decide)).trans hFgs81a0_32
                            have hF242_23 := (hT242 23 (by decide)).trans hF201
                            have hF242_24 := (hT242 24 (by decide)).trans hF205
                            have hF242_29 := (hT242 29 (by decide)).trans hF215
                            have he := he.trans (hx242.sub (jsub_of rfl))
                            have hkp := hkp.trans (jkc.put hOgs81a0 hO242 hT242 hB242 (by decide))
                            have ha0 := ha0.mono hx242.1
                            have hb25t30 := hb25t30.mono hx242.1
                            have hb61 := hb61.mono hx242.1
                            have hb75 := hb75.mono hx242.1
                            have hb215 := hb215.mono hx242.1
                            have hA182 := hx242.2 _ _ hA182 (jnot_of rfl)
                            have hA190 := hx242.2 _ _ hA190 (jnot_of rfl)
                            have hA197 := hx242.2 _ _ hA197 (jnot_of rfl)
                            refine J_goto (tgt := 81) dX7_countWays_245 (by decide) ?_
                            have hm0 : (F32n81 i2n81.toInt.toNat).toInt = y91.toInt := by rw [hf91]
                            have hm1 : (G197 (i2n81.toInt + 1).toNat).toInt = -1 := by rw [hp197, he196.eq]
                            have hup := jcn_up (c := 0) (show (F44n81 y136.toInt.toNat).toInt = 0 by rw [hf153]; exact c154) (by rw [hp190, he189.eq]; decide) ho190 36 (by omega)
                            refine J.mask [true, true, true, true, false] ?_
                            exact ih81 _ y157 y172 fs242 G190 G182 G197 hW he ha0 hb25t30 hb61 hb75 hkp hO242 hF242_30 hF242_31 hF242_32 hA190 hA182 hA197 (by (try simp only [he157.eq, he172.eq, true_and, and_true]) <;> omega) (by (try simp only [he157.eq, he172.eq, true_and, and_true]) <;> omega) (fun k hk => by rw [he172.eq] at hk; exact (Nat.decEq k (i2n81.toInt + 1).toNat).byCases (fun hq => by rw [hq, hp197, he196.eq]; omega) (fun hq => by rw [ho197 k hq]; exact (Nat.decEq k i2n81.toInt.toNat).byCases (fun hq => by rw [hq, hp94, he93.eq]; omega) (fun hq => by rw [ho94 k hq]; exact htry k (by omega)))) (fun k hk => by rw [he172.eq] at hk; exact (Nat.decEq k (i2n81.toInt + 1).toNat).byCases (fun hq => by rw [hq, hp182, hp190, he189.eq]; omega) (fun hq => by rw [ho182 k hq]; have h1 := hway k (by omega); exact ⟨h1.1, h1.2.1, (Nat.decEq (F31n81 k).toInt.toNat y136.toInt.toNat).byCases (fun h9 => by rw [h9, hp190, he189.eq]; decide) (fun h9 => by rw [ho190 _ h9]; exact h1.2.2)⟩)) (fun i j h1 h2 => by rw [he172.eq] at h2; exact (Nat.decEq j (i2n81.toInt + 1).toNat).byCases (fun hq => by rw [hq, hp182, ho182 i (by omega)]; intro h9; have h3 := (hway i (by omega)).2.2; rw [h9, hf153] at h3; exact h3 c154) (fun hq => by rw [ho182 j hq, ho182 i (by omega)]; exact hdis i j h1 (by omega))) (by (try simp only [he157.eq, he172.eq, true_and, and_true]) <;> omega) (by (try simp only [he157.eq, he172.eq, true_and, and_true]) <;> omega)
                          refine Jz_icmp_ne (tgt := 240) he231 jEq.rf dX7_countWays_233 (by decide) (fun c233 => ?_) (fun c233 => ?_)
                          · refine Jz_iconst 0 dX7_countWays_240 (by decide) (fun y240 he240 => ?_)
                            exact K241  y240  
                          · refine Jz_iconst 1 dX7_countWays_236 (by decide) (fun y236 he236 => ?_)
                            refine J_goto (tgt := 241) dX7_countWays_237 (by decide) ?_
                            exact K241  y236  
                      · refine J_aload_n dX7_countWays_166 rfl ?_
                        refine Jz_iconst 1 dX7_countWays_167 (by decide) (fun y167 he167 => ?_)
                        refine Jz_putI hOgs81a0 hW id rfl jf_X7_218 jt_X7_27 he167 dX7_countWays_168 (by omega) (by omega) (fun _ h => ⟨nar_b (by omega) (by omega), fit_b (by omega) (by omega)⟩) (fun V168 fs168 hW hx168 hO168 hS168 hT168 hB168 => ?_)
                        have hK168 : jokO _ (jFs 5) fs168 := hW _ _ id hO168
                        have hF168_30 := (hT168 30 (by decide)).trans hFgs81a0_30
                        have hF168_31 := (hT168 31 (by decide)).trans hFgs81a0_31
                        have hF168_32 := (hT168 32 (by decide)).trans hFgs81a0_32
                        have he := he.trans (hx168.sub (jsub_of rfl))
                        have hkp := hkp.trans (jkc.put hOgs81a0 hO168 hT168 hB168 (by decide))
                        have ha0 := ha0.mono hx168.1
                        have hb25t30 := hb25t30.mono hx168.1
                        have hb61 := hb61.mono hx168.1
                        have hb75 := hb75.mono hx168.1
                        have hAF44n81 := hx168.2 _ _ hAF44n81 (jnot_of rfl)
                        have hAF31n81 := hx168.2 _ _ hAF31n81 (jnot_of rfl)
                        have hA94 := hx168.2 _ _ hA94 (jnot_of rfl)
                        exact J_ret (r := none) dX7_countWays_171 ⟨rfl, rfl⟩ (⟨⟨hW, he, rfl⟩, hkp⟩)
                · refine J_aload_n dX7_countWays_105 rfl ?_
                  refine J_get jf_X7_86 dX7_countWays_106 hOgs81a0 hFgs81a0_30 ?_
                  refine J_aload_n dX7_countWays_109 rfl ?_
                  refine J_get jf_X7_89 dX7_countWays_110 hOgs81a0 hFgs81a0_31 ?_
                  refine J_iload_n dX7_countWays_113 rfl ?_
                  refine Jz_iald (r := (0, 35)) jEq.rf dX7_countWays_114 hAF31n81 rfl hvF31n81 (by omega) (by omega) (fun y114 hf114 hl114 hh114 => ?_)
                  dsimp only at hl114 hh114
                  have hb114 := hway i2n81.toInt.toNat (by omega)
                  rw [hf114] at hb114
                  refine Jz_iconst 0 dX7_countWays_115 (by decide) (fun y115 he115 => ?_)
                  refine Jz_zast (r := (0, 1)) jEq.rf he115 hW id dX7_countWays_116 hAF44n81 rfl rfl (by omega) (by omega) (by omega) (by omega) (fun _ h => vp_nar_b (by omega) (by omega)) (fun V116 G116 hW hx116 hA116 hp116 ho116 => ?_)
                  obtain ⟨hN116, hv116⟩ := WT_rngI (r := (0, 1)) hW id rfl hA116
                  clear hN116
                  have he := he.trans (hx116.sub (jsub_of rfl))
                  have hkp := hkp.trans (jkc.of hx116 (jnot_of rfl))
                  have ha0 := ha0.mono hx116.1
                  have hb25t30 := hb25t30.mono hx116.1
                  have hb61 := hb61.mono hx116.1
                  have hb75 := hb75.mono hx116.1
                  have hOgs81a0 := hx116.2 _ _ hOgs81a0 (jnot_of rfl)
                  have hKgs81a0 := hKgs81a0.mono hx116.1
                  have hAF31n81 := hx116.2 _ _ hAF31n81 (jnot_of rfl)
                  have hA94 := hx116.2 _ _ hA94 (jnot_of rfl)
                  refine Jz_iinc (-1) dX7_countWays_117 rfl rfl (by decide) jEq.rf (by decide) (by omega) (by omega) (fun y117 he117 => ?_)
                  refine J_goto (tgt := 81) dX7_countWays_120 (by decide) ?_
                  have hm0 : (F32n81 i2n81.toInt.toNat).toInt = y91.toInt := by rw [hf91]
                  have hm1 : -1 ≤ (G94 (i2n81.toInt + (-1)).toNat).toInt := (Int.decLt i2n81.toInt 1).byCases (fun hz => by rw [show (i2n81.toInt + (-1)).toNat = i2n81.toInt.toNat by omega, hp94, he93.eq]; omega) (fun hz => by rw [ho94 _ (by omega)]; exact (htry _ (by omega)).1)
                  have hdn := jcn_dn (c := 0) hb114.2.2 (by rw [hp116, he115.eq]) ho116 (n := 36) (by omega)
                  refine J.mask [true, true, true, true, false] ?_
                  exact ih81 _ i1n81 y117 gs81a0 G116 F31n81 G94 hW he ha0 hb25t30 hb61 hb75 hkp hOgs81a0 hFgs81a0_30 hFgs81a0_31 hFgs81a0_32 hA116 hAF31n81 hA94 (by (try simp only [he117.eq, true_and, and_true]) <;> omega) (by (try simp only [he117.eq, true_and, and_true]) <;> omega) (fun k hk => by rw [he117.eq] at hk; rw [ho94 k (by omega)]; exact htry k (by omega)) (fun k hk => by rw [he117.eq] at hk; have h1 := hway k (by omega); have h2 := hdis k i2n81.toInt.toNat (by omega) (by omega); rw [hf114] at h2; rw [ho116 _ (by omega)]; exact h1) (fun i j h1 h2 => by rw [he117.eq] at h2; exact hdis i j h1 (by omega)) (by (try simp only [he117.eq, true_and, and_true]) <;> omega) (by (try simp only [he117.eq, true_and, and_true]) <;> omega)
          refine J.mask [true, true, true, true, false] ?_
          exact L81 _ _ y51 y53 fs20 G73 G66 G80 hW he ha0 hb25t30 hb61 hb75 hkp hO20 hF25t30 hF61 hF75 hA73 hA66 hA80 (by (try simp only [he51.eq, he53.eq, true_and, and_true]) <;> omega) (by (try simp only [he51.eq, he53.eq, true_and, and_true]) <;> omega) (fun k hk => by rw [he53.eq] at hk; rw [show k = Int.toNat 0 by omega, hp80, he79.eq]; omega) (fun k hk => by rw [he53.eq] at hk; rw [show k = Int.toNat 0 by omega, hp66, he65.eq, hp73, he72.eq]; omega) (fun i j h1 h2 => by rw [he53.eq] at h2; omega) (by rw [he53.eq, jcn_one (n := 36) (show ¬ (G73 (Int.toNat 0)).toInt = 0 by rw [hp73, he72.eq]; decide) (fun k h1 h2 => by rw [ho73 k (by show k ≠ 0; omega)]; exact hz k (by omega)) (by omega)]; rfl) (Nat.lt_succ_self _)
        · refine J_aload_n dX7_countWays_31 rfl ?_
          obtain ⟨w32, hF32, b32, rfl, hb32⟩ := hK20.2 29 (.inr (some (.inl 30))) rfl
          refine J_get jf_X7_83 dX7_countWays_32 hO20 hF32 ?_
          refine J_iload_n dX7_countWays_35 rfl ?_
          refine Jz_iconst 0 dX7_countWays_36 (by decide) (fun y36 he36 => ?_)
          obtain ⟨n37, f37, hA37, hN37, hM37, hv37⟩ := WT_arrI (r := (-2147483648, 2147483647)) hW id rfl hb32
          obtain rfl := hM37 36 rfl
          clear hN37 hM37
          refine Jz_iastw (r := ((-2147483648), 2147483647)) jEq.rf he36 hW id dX7_countWays_37 hA37 rfl rfl (by omega) (by omega) (by omega) (by omega) (fun V37 hW hx37 => ?_)
          have he := he.trans (hx37.sub (jsub_of rfl))
          have hkp := hkp.trans (jkc.of hx37 (jnot_of rfl))
          have ha0 := ha0.mono hx37.1
          have hb25t30 := hb25t30.mono hx37.1
          have hb32 := hb32.mono hx37.1
          have hO20 := hx37.2 _ _ hO20 (jnot_of rfl)
          have hK20 := hK20.mono hx37.1
          have hAF44n25 := hx37.2 _ _ hAF44n25 (jnot_of rfl)
          refine J_aload_n dX7_countWays_38 rfl ?_
          refine J_get jf_X7_86 dX7_countWays_39 hO20 hF25t30 ?_
          refine J_iload_n dX7_countWays_42 rfl ?_
          refine Jz_iconst 0 dX7_countWays_43 (by decide) (fun y43 he43 => ?_)
          refine Jz_zast (r := (0, 1)) jEq.rf he43 hW id dX7_countWays_44 hAF44n25 rfl rfl (by omega) (by omega) (by omega) (by omega) (fun _ h => vp_nar_b (by omega) (by omega)) (fun V44 G44 hW hx44 hA44 hp44 ho44 => ?_)
          obtain ⟨hN44, hv44⟩ := WT_rngI (r := (0, 1)) hW id rfl hA44
          clear hN44
          have he := he.trans (hx44.sub (jsub_of rfl))
          have hkp := hkp.trans (jkc.of hx44 (jnot_of rfl))
          have ha0 := ha0.mono hx44.1
          have hb25t30 := hb25t30.mono hx44.1
          have hb32 := hb32.mono hx44.1
          have hO20 := hx44.2 _ _ hO20 (jnot_of rfl)
          have hK20 := hK20.mono hx44.1
          refine Jz_iinc 1 dX7_countWays_45 rfl rfl (by decide) jEq.rf (by decide) (by omega) (by omega) (fun y45 he45 => ?_)
          refine J_goto (tgt := 25) dX7_countWays_48 (by decide) ?_
          refine J.mask [true, true, false, false, false] ?_
          exact ih25 _ y45 G44 hW he ha0 hb25t30 hkp hO20 hK20 hA44 (by (try simp only [he45.eq, true_and, and_true]) <;> omega) (fun k hk => by rw [he45.eq] at hk; exact (Nat.decEq k i1n25.toInt.toNat).byCases (fun hq => by rw [hq, hp44, he43.eq]) (fun hq => by rw [ho44 k hq]; exact hz k (by omega))) (by (try simp only [he45.eq, true_and, and_true]) <;> omega)
    refine J.mask [true, true, false, false, false] ?_
    exact L25 _ _ y23 f25tb25t30 hW he ha0 hb25t30 hkp hO20 hK20 hA25tb25t30 (by (try simp only [he23.eq, true_and, and_true]) <;> omega) (fun k hk => by rw [he23.eq] at hk; omega) (Nat.lt_succ_self _)
  · exact J_ret (r := none) dX7_countWays_7 ⟨rfl, rfl⟩ (⟨⟨hW, he, rfl⟩, hkp⟩)
set_option maxRecDepth 100000 in
set_option maxHeartbeats 8000000 in
theorem w_X7_ways {tS : jTS} (d : Nat) (V0 : jH) (a0 : Nat) (x1 : Int32) (hd : 3 ≤ d) (hW : WT V0) (ha0 : jis V0 (.inr 5) a0) (hl1 : 0 ≤ x1.toInt) (hh1 : x1.toInt ≤ 1) : jTot tS mX7_ways d [.ref a0, .int x1] V0 0 0 (fun r V => (jPost [.inr 5, .inl 30, .inl 44, .inl 31, .inl 32] V0 (fun r _ => ∃ y : Int32, r = some (.int y) ∧ ((-2147483648) ≤ y.toInt) ∧ (y.toInt ≤ 2147483647))) r V ∧ jkc 5 [0, 23, 24] V0 V) := by
  refine jTot.of_J [some (.ref a0), some (.int x1), none, none] moX7_ways (Nat.le_of_ble_eq_true rfl) rfl ?_
  have he : jeff [.inr 5, .inl 30, .inl 44, .inl 31, .inl 32] V0 V0 := jeff.refl _ _
  have hkp : jkc 5 [0, 23, 24] V0 V0 := jkc.rf
  refine J_aload_n dX7_ways_0 rfl ?_
  refine Jw_callV0 (q9 := (RX7, TX7, 34)) moX7_countWays jw_ml_X7_230 jw_im_X7_countWays jw_se_X7_countWays ha0 rfl rfl dX7_ways_1 (w_X7_countWays (d - 1) _ a0 (by omega) hW  ha0) (by omega) (Nat.zero_le _) (Nat.zero_le _) (Nat.le_of_ble_eq_true rfl) (fun r1 V1 h1 => ?_)
  obtain ⟨h1, hX1_0⟩ := h1
  obtain ⟨hW, hx1, hr1⟩ := h1
  have he := he.trans (hx1.sub (jsub_of rfl))
  have hkp := hkp.trans hX1_0
  have ha0 := ha0.mono hx1.1
  cases hr1
  refine J_aload_n dX7_ways_4 rfl ?_
  obtain ⟨fs5, hO5, hK5⟩ := WT_obj hW id ha0
  obtain ⟨w5, hF5, y5, rfl, hl5, hh5⟩ := hK5.2 27 (.inl (0, 1)) rfl
  dsimp only at hl5 hh5
  refine J_get jf_X7_218 dX7_ways_5 hO5 hF5 ?_
  refine Jz_if_eq (tgt := 14) jEq.rf dX7_ways_8 (by decide) (fun c8 => ?_) (fun c8 => ?_)
  · refine Jz_iconst 0 dX7_ways_14 (by decide) (fun y14 he14 => ?_)
    refine J_istore_n dX7_ways_15 rfl (by decide) ?_
    refine Jz_iconst 0 dX7_ways_16 (by decide) (fun y16 he16 => ?_)
    refine J_istore_n dX7_ways_17 rfl (by decide) ?_
    have L18 : ∀ (N : Nat) (V : jH) (i2n18 : Int32) (i3n18 : Int32), WT V → jeff [.inr 5, .inl 30, .inl 44, .inl 31, .inl 32] V0 V → (jis V (.inr 5) a0) → (jkc 5 [0, 23, 24] V0 V) → (V a0 = some (.inr (5, fs5))) → (jokO V (jFs 5) fs5) → (0 ≤ i3n18.toInt) → (300 - i3n18.toInt).toNat < N → J tS mX7_ways d 18 [some (.ref a0), some (.int x1), some (.int i2n18), some (.int i3n18)] [] V 0 0 (fun r V => (jPost [.inr 5, .inl 30, .inl 44, .inl 31, .inl 32] V0 (fun r _ => ∃ y : Int32, r = some (.int y) ∧ ((-2147483648) ≤ y.toInt) ∧ (y.toInt ≤ 2147483647))) r V ∧ jkc 5 [0, 23, 24] V0 V) := by
      intro N
      induction N with
      | zero => intro V i2n18 i3n18 hW he ha0 hkp hO5 hK5 hi3 hm; exact absurd hm (Nat.not_lt_zero _)
      | succ N ih =>
        intro V i2n18 i3n18 hW he ha0 hkp hO5 hK5 hi3 hm
        have ih18 := ih
        have hri3 := j_rng i3n18
        refine J_iload_n dX7_ways_18 rfl ?_
        refine Jz_bipush 36 dX7_ways_19 (by decide) (fun y19 he19 => ?_)
        refine Jz_icmp_ge (tgt := 39) jEq.rf he19 dX7_ways_21 (by decide) (fun c21 => ?_) (fun c21 => ?_)
        · refine J_iload_n dX7_ways_39 rfl ?_
          refine Jz_if_eq (tgt := 50) jEq.rf dX7_ways_40 (by decide) (fun c40 => ?_) (fun c40 => ?_)
          · refine J_iload_n dX7_ways_50 rfl ?_
            exact J_ret (r := some (.int _)) dX7_ways_51 ⟨rfl, _, rfl, rfl⟩ (⟨⟨hW, he, ⟨_, rfl, (j_rng _).1, (j_rng _).2⟩⟩, hkp⟩)
          · refine J_aload_n dX7_ways_43 rfl ?_
            obtain ⟨w44, hF44, y44, rfl, hl44, hh44⟩ := hK5.2 28 (.inl ((-2147483648), 2147483647)) rfl
            dsimp only at hl44 hh44
            refine J_get jf_X7_221 dX7_ways_44 hO5 hF44 ?_
            refine J_goto (tgt := 51) dX7_ways_47 (by decide) ?_
            exact J_ret (r := some (.int _)) dX7_ways_51 ⟨rfl, _, rfl, rfl⟩ (⟨⟨hW, he, ⟨_, rfl, (j_rng _).1, (j_rng _).2⟩⟩, hkp⟩)
        · refine J_iload_n dX7_ways_24 rfl ?_
          refine J_aload_n dX7_ways_25 rfl ?_
          obtain ⟨w26, hF26, b26, rfl, hb26⟩ := hK5.2 29 (.inr (some (.inl 30))) rfl
          refine J_get jf_X7_83 dX7_ways_26 hO5 hF26 ?_
          refine J_iload_n dX7_ways_29 rfl ?_
          obtain ⟨n30, f30, hA30, hN30, hM30, hv30⟩ := WT_arrI (r := (-2147483648, 2147483647)) hW id rfl hb26
          obtain rfl := hM30 36 rfl
          clear hN30 hM30
          refine Jz_ialdw jEq.rf dX7_ways_30 hA30 rfl (by omega) (by omega) (fun y30 => ?_)
          refine Jz_iaddw dX7_ways_31 (fun y31  => ?_)
          refine J_istore_n dX7_ways_32 rfl (by decide) ?_
          refine Jz_iinc 1 dX7_ways_33 rfl rfl (by decide) jEq.rf (by decide) (by omega) (by omega) (fun y33 he33 => ?_)
          refine J_goto (tgt := 18) dX7_ways_36 (by decide) ?_
          refine J.mask [true, true, true, true] ?_
          exact ih18 _ y31 y33 hW he ha0 hkp hO5 hK5 (by (try simp only [he33.eq, true_and, and_true]) <;> omega) (by (try simp only [he33.eq, true_and, and_true]) <;> omega)
    refine J.mask [true, true, true, true] ?_
    exact L18 _ _ y14 y16 hW he ha0 hkp hO5 hK5 (by (try simp only [he14.eq, he16.eq, true_and, and_true]) <;> omega) (Nat.lt_succ_self _)
  · refine Jz_bipush (-5) dX7_ways_11 (by decide) (fun y11 he11 => ?_)
    exact J_ret (r := some (.int _)) dX7_ways_13 ⟨rfl, _, rfl, rfl⟩ (⟨⟨hW, he, ⟨_, rfl, (j_rng _).1, (j_rng _).2⟩⟩, hkp⟩)
set_option maxRecDepth 100000 in
set_option maxHeartbeats 8000000 in
theorem w_X7_waysOf {tS : jTS} (d : Nat) (V0 : jH) (a0 : Nat) (x1 : Int32) (hd : 3 ≤ d) (hW : WT V0) (ha0 : jis V0 (.inr 5) a0) : jTot tS mX7_waysOf d [.ref a0, .int x1] V0 0 0 (fun r V => (jPost [.inr 5, .inl 30, .inl 44, .inl 31, .inl 32] V0 (fun r _ => ∃ y : Int32, r = some (.int y) ∧ ((-2147483648) ≤ y.toInt) ∧ (y.toInt ≤ 2147483647))) r V ∧ jkc 5 [0, 23, 24] V0 V) := by
  refine jTot.of_J [some (.ref a0), some (.int x1)] moX7_waysOf (Nat.le_of_ble_eq_true rfl) rfl ?_
  have hrx1 := j_rng x1
  have he : jeff [.inr 5, .inl 30, .inl 44, .inl 31, .inl 32] V0 V0 := jeff.refl _ _
  have hkp : jkc 5 [0, 23, 24] V0 V0 := jkc.rf
  refine J_iload_n dX7_waysOf_0 rfl ?_
  refine Jz_if_ge (tgt := 7) jEq.rf dX7_waysOf_1 (by decide) (fun c1 => ?_) (fun c1 => ?_)
  · refine J_aload_n dX7_waysOf_7 rfl ?_
    refine Jw_callV0 (q9 := (RX7, TX7, 34)) moX7_countWays jw_ml_X7_230 jw_im_X7_countWays jw_se_X7_countWays ha0 rfl rfl dX7_waysOf_8 (w_X7_countWays (d - 1) _ a0 (by omega) hW  ha0) (by omega) (Nat.zero_le _) (Nat.zero_le _) (Nat.le_of_ble_eq_true rfl) (fun r8 V8 h8 => ?_)
    obtain ⟨h8, hX8_0⟩ := h8
    obtain ⟨hW, hx8, hr8⟩ := h8
    have he := he.trans (hx8.sub (jsub_of rfl))
    have hkp := hkp.trans hX8_0
    have ha0 := ha0.mono hx8.1
    cases hr8
    refine J_aload_n dX7_waysOf_11 rfl ?_
    obtain ⟨fs12, hO12, hK12⟩ := WT_obj hW id ha0
    obtain ⟨w12, hF12, y12, rfl, hl12, hh12⟩ := hK12.2 27 (.inl (0, 1)) rfl
    dsimp only at hl12 hh12
    refine J_get jf_X7_218 dX7_waysOf_12 hO12 hF12 ?_
    refine Jz_if_eq (tgt := 23) jEq.rf dX7_waysOf_15 (by decide) (fun c15 => ?_) (fun c15 => ?_)
    · refine J_iload_n dX7_waysOf_23 rfl ?_
      refine Jz_bipush 36 dX7_waysOf_24 (by decide) (fun y24 he24 => ?_)
      refine Jz_icmp_ge (tgt := 38) jEq.rf he24 dX7_waysOf_26 (by decide) (fun c26 => ?_) (fun c26 => ?_)
      · refine Jz_iconst 0 dX7_waysOf_38 (by decide) (fun y38 he38 => ?_)
        exact J_ret (r := some (.int _)) dX7_waysOf_39 ⟨rfl, _, rfl, rfl⟩ (⟨⟨hW, he, ⟨_, rfl, (j_rng _).1, (j_rng _).2⟩⟩, hkp⟩)
      · refine J_aload_n dX7_waysOf_29 rfl ?_
        obtain ⟨w30, hF30, b30, rfl, hb30⟩ := hK12.2 29 (.inr (some (.inl 30))) rfl
        refine J_get jf_X7_83 dX7_waysOf_30 hO12 hF30 ?_
        refine J_iload_n dX7_waysOf_33 rfl ?_
        obtain ⟨n34, f34, hA34, hN34, hM34, hv34⟩ := WT_arrI (r := (-2147483648, 2147483647)) hW id rfl hb30
        obtain rfl := hM34 36 rfl
        clear hN34 hM34
        refine Jz_ialdw jEq.rf dX7_waysOf_34 hA34 rfl (by omega) (by omega) (fun y34 => ?_)
        refine J_goto (tgt := 39) dX7_waysOf_35 (by decide) ?_
        exact J_ret (r := some (.int _)) dX7_waysOf_39 ⟨rfl, _, rfl, rfl⟩ (⟨⟨hW, he, ⟨_, rfl, (j_rng _).1, (j_rng _).2⟩⟩, hkp⟩)
    · refine Jz_bipush (-5) dX7_waysOf_18 (by decide) (fun y18 he18 => ?_)
      refine J_goto (tgt := 39) dX7_waysOf_20 (by decide) ?_
      exact J_ret (r := some (.int _)) dX7_waysOf_39 ⟨rfl, _, rfl, rfl⟩ (⟨⟨hW, he, ⟨_, rfl, (j_rng _).1, (j_rng _).2⟩⟩, hkp⟩)
  · refine Jz_bipush (-2) dX7_waysOf_4 (by decide) (fun y4 he4 => ?_)
    exact J_ret (r := some (.int _)) dX7_waysOf_6 ⟨rfl, _, rfl, rfl⟩ (⟨⟨hW, he, ⟨_, rfl, (j_rng _).1, (j_rng _).2⟩⟩, hkp⟩)
set_option maxRecDepth 100000 in
set_option maxHeartbeats 8000000 in
theorem w_X7_shortest {tS : jTS} (d : Nat) (V0 : jH) (a0 : Nat) (hd : 2 ≤ d) (hW : WT V0) (ha0 : jis V0 (.inr 5) a0) : jTot tS mX7_shortest d [.ref a0] V0 0 0 (fun r V => (jPost [.inr 5, .inl 33, .inl 29] V0 (fun r _ => ∃ y : Int32, r = some (.int y) ∧ ((-2147483648) ≤ y.toInt) ∧ (y.toInt ≤ 2147483647))) r V ∧ jkc 5 [0, 23, 24] V0 V) := by
  refine jTot.of_J [some (.ref a0), none, none, none] moX7_shortest (Nat.le_of_ble_eq_true rfl) rfl ?_
  have he : jeff [.inr 5, .inl 33, .inl 29] V0 V0 := jeff.refl _ _
  have hkp : jkc 5 [0, 23, 24] V0 V0 := jkc.rf
  refine Jz_iconst 0 dX7_shortest_0 (by decide) (fun y0 he0 => ?_)
  refine J_istore_n dX7_shortest_1 rfl (by decide) ?_
  obtain ⟨fs2t33, hO2t33, hK2t33⟩ := WT_obj hW id ha0
  obtain ⟨w2t33, hF2t33, b2t33, rfl, hb2t33⟩ := hK2t33.2 33 (.inr (some (.inl 33))) rfl
  obtain ⟨n2tb2t33, f2tb2t33, hA2tb2t33, hN2tb2t33, hM2tb2t33, hv2tb2t33⟩ := WT_arrI (r := (-1, 35)) hW id rfl hb2t33
  obtain rfl := hM2tb2t33 36 rfl
  clear hN2tb2t33 hM2tb2t33
  have L2 : ∀ (N : Nat) (V : jH) (i1n2 : Int32) (F33n2 : Nat → Int32), WT V → jeff [.inr 5, .inl 33, .inl 29] V0 V → (jis V (.inr 5) a0) → (jis V (.inl 33) b2t33) → (jkc 5 [0, 23, 24] V0 V) → (V a0 = some (.inr (5, fs2t33))) → (jokO V (jFs 5) fs2t33) → (V b2t33 = some (.inl (33, 36, .inl F33n2))) → (0 ≤ i1n2.toInt) → (∀ k : Nat, (k : Int) < i1n2.toInt → (k = 0 → (F33n2 k).toInt = 0) ∧ (¬ k = 0 → (F33n2 k).toInt = -1)) → (300 - i1n2.toInt).toNat < N → J tS mX7_shortest d 2 [some (.ref a0), some (.int i1n2), none, none] [] V 0 0 (fun r V => (jPost [.inr 5, .inl 33, .inl 29] V0 (fun r _ => ∃ y : Int32, r = some (.int y) ∧ ((-2147483648) ≤ y.toInt) ∧ (y.toInt ≤ 2147483647))) r V ∧ jkc 5 [0, 23, 24] V0 V) := by
    intro N
    induction N with
    | zero => intro V i1n2 F33n2 hW he ha0 hb2t33 hkp hO2t33 hK2t33 hAF33n2 hi1 hz hm; exact absurd hm (Nat.not_lt_zero _)
    | succ N ih =>
      intro V i1n2 F33n2 hW he ha0 hb2t33 hkp hO2t33 hK2t33 hAF33n2 hi1 hz hm
      have ih2 := ih
      have hri1 := j_rng i1n2
      obtain ⟨hNF33n2, hvF33n2⟩ := WT_rngI (r := ((-1), 35)) hW id rfl hAF33n2
      clear hNF33n2
      refine J_iload_n dX7_shortest_2 rfl ?_
      refine Jz_bipush 36 dX7_shortest_3 (by decide) (fun y3 he3 => ?_)
      refine Jz_icmp_ge (tgt := 29) jEq.rf he3 dX7_shortest_5 (by decide) (fun c5 => ?_) (fun c5 => ?_)
      · refine J_aload_n dX7_shortest_29 rfl ?_
        refine Jz_iconst 1 dX7_shortest_30 (by decide) (fun y30 he30 => ?_)
        refine Jz_putI hO2t33 hW id rfl jf_X7_205 jt_X7_22 he30 dX7_shortest_31 (by omega) (by omega) (fun _ _ => ⟨rfl, rfl⟩) (fun V31 fs31 hW hx31 hO31 hS31 hT31 hB31 => ?_)
        have hK31 : jokO _ (jFs 5) fs31 := hW _ _ id hO31
        have hF31_33 := (hT31 33 (by decide)).trans hF2t33
        have he := he.trans (hx31.sub (jsub_of rfl))
        have hkp := hkp.trans (jkc.put hO2t33 hO31 hT31 hB31 (by decide))
        have ha0 := ha0.mono hx31.1
        have hb2t33 := hb2t33.mono hx31.1
        have hAF33n2 := hx31.2 _ _ hAF33n2 (jnot_of rfl)
        refine J_aload_n dX7_shortest_34 rfl ?_
        obtain ⟨w35, hF35, b35, rfl, hb35⟩ := hK31.2 21 (.inr (some (.inl 29))) rfl
        refine J_get jf_X7_70 dX7_shortest_35 hO31 hF35 ?_
        refine Jz_iconst 0 dX7_shortest_38 (by decide) (fun y38 he38 => ?_)
        refine Jz_iconst 0 dX7_shortest_39 (by decide) (fun y39 he39 => ?_)
        obtain ⟨n40, f40, hA40, hN40, hM40, hv40⟩ := WT_arrI (r := (0, 9999)) hW id rfl hb35
        obtain rfl := hM40 10000 rfl
        clear hN40 hM40
        refine Jz_iast (r := (0, 9999)) he38 he39 hW id dX7_shortest_40 hA40 rfl rfl (by omega) (by omega) (by omega) (by omega) (fun V40 G40 hW hx40 hA40 hp40 ho40 => ?_)
        obtain ⟨hN40, hv40⟩ := WT_rngI (r := (0, 9999)) hW id rfl hA40
        clear hN40
        have he := he.trans (hx40.sub (jsub_of rfl))
        have hkp := hkp.trans (jkc.of hx40 (jnot_of rfl))
        have ha0 := ha0.mono hx40.1
        have hb2t33 := hb2t33.mono hx40.1
        have hb35 := hb35.mono hx40.1
        have hO31 := hx40.2 _ _ hO31 (jnot_of rfl)
        have hK31 := hK31.mono hx40.1
        have hAF33n2 := hx40.2 _ _ hAF33n2 (jnot_of rfl)
        refine Jz_iconst 0 dX7_shortest_41 (by decide) (fun y41 he41 => ?_)
        refine J_istore_n dX7_shortest_42 rfl (by decide) ?_
        have L43 : ∀ (N : Nat) (V : jH) (i1n43 : Int32) (gs43a0 : List Value) (g22n43 : Int32) (F33n43 : Nat → Int32) (F29n43 : Nat → Int32), WT V → jeff [.inr 5, .inl 33, .inl 29] V0 V → (jis V (.inr 5) a0) → (jis V (.inl 33) b2t33) → (jis V (.inl 29) b35) → (jkc 5 [0, 23, 24] V0 V) → (V a0 = some (.inr (5, gs43a0))) → (gs43a0[22]? = some (.int g22n43)) → (gs43a0[33]? = some (.ref b2t33)) → (gs43a0[21]? = some (.ref b35)) → (V b2t33 = some (.inl (33, 36, .inl F33n43))) → (V b35 = some (.inl (29, 10000, .inl F29n43))) → (0 ≤ i1n43.toInt) → ((jcn (-1) F33n43 36 : Int) = g22n43.toInt) → (∀ j : Nat, (j : Int) < g22n43.toInt → 0 ≤ (F29n43 j).toInt ∧ (F29n43 j).toInt ≤ 35 ∧ 0 ≤ (F33n43 (F29n43 j).toInt.toNat).toInt ∧ (F33n43 (F29n43 j).toInt.toNat).toInt ≤ (j : Int)) → (300 - i1n43.toInt).toNat < N → J tS mX7_shortest d 43 [some (.ref a0), some (.int i1n43), none, none] [] V 0 0 (fun r V => (jPost [.inr 5, .inl 33, .inl 29] V0 (fun r _ => ∃ y : Int32, r = some (.int y) ∧ ((-2147483648) ≤ y.toInt) ∧ (y.toInt ≤ 2147483647))) r V ∧ jkc 5 [0, 23, 24] V0 V) := by
          intro N
          induction N with
          | zero => intro V i1n43 gs43a0 g22n43 F33n43 F29n43 hW he ha0 hb2t33 hb35 hkp hOgs43a0 hFgs43a0_22 hFgs43a0_33 hFgs43a0_21 hAF33n43 hAF29n43 hk hcnt hque hm; exact absurd hm (Nat.not_lt_zero _)
          | succ N ih =>
            intro V i1n43 gs43a0 g22n43 F33n43 F29n43 hW he ha0 hb2t33 hb35 hkp hOgs43a0 hFgs43a0_22 hFgs43a0_33 hFgs43a0_21 hAF33n43 hAF29n43 hk hcnt hque hm
            have ih43 := ih
            have hri1 := j_rng i1n43
            have hKgs43a0 : jokO V (jFs 5) gs43a0 := hW _ _ id hOgs43a0
            have hrgg22n43 : (-2147483648) ≤ g22n43.toInt ∧ g22n43.toInt ≤ 2147483647 := jok_rngI hKgs43a0 rfl hFgs43a0_22
            obtain ⟨hNF33n43, hvF33n43⟩ := WT_rngI (r := ((-1), 35)) hW id rfl hAF33n43
            clear hNF33n43
            obtain ⟨hNF29n43, hvF29n43⟩ := WT_rngI (r := (0, 9999)) hW id rfl hAF29n43
            clear hNF29n43
            have hle := jcn_le (c := -1) (F := F33n43) 36
            refine J_iload_n dX7_shortest_43 rfl ?_
            refine J_aload_n dX7_shortest_44 rfl ?_
            refine J_get jf_X7_205 dX7_shortest_45 hOgs43a0 hFgs43a0_22 ?_
            refine Jz_icmp_ge (tgt := 136) jEq.rf jEq.rf dX7_shortest_48 (by decide) (fun c48 => ?_) (fun c48 => ?_)
            · refine J_aload_n dX7_shortest_136 rfl ?_
              refine J_get jf_X7_95 dX7_shortest_137 hOgs43a0 hFgs43a0_33 ?_
              refine J_aload_n dX7_shortest_140 rfl ?_
              obtain ⟨w141, hF141, y141, rfl, hl141, hh141⟩ := hKgs43a0.2 23 (.inl (2, 6)) rfl
              dsimp only at hl141 hh141
              refine J_get jf_X7_73 dX7_shortest_141 hOgs43a0 hF141 ?_
              refine J_aload_n dX7_shortest_144 rfl ?_
              obtain ⟨w145, hF145, y145, rfl, hl145, hh145⟩ := hKgs43a0.2 24 (.inl (2, 6)) rfl
              dsimp only at hl145 hh145
              refine J_get jf_X7_77 dX7_shortest_145 hOgs43a0 hF145 ?_
              refine Jz_imulM 6 jEq.rf jEq.rf dX7_shortest_148 (by omega) (by omega) (by omega) (by omega) (fun y148 he148 hf148 => ?_)
              refine Jz_iconst 1 dX7_shortest_149 (by decide) (fun y149 he149 => ?_)
              refine Jz_isub jEq.rf he149 dX7_shortest_150 (by omega) (by omega) (fun y150 he150 => ?_)
              refine Jz_iald (r := ((-1), 35)) he150 dX7_shortest_151 hAF33n43 rfl hvF33n43 (by omega) (by omega) (fun y151 hf151 hl151 hh151 => ?_)
              dsimp only at hl151 hh151
              exact J_ret (r := some (.int _)) dX7_shortest_152 ⟨rfl, _, rfl, rfl⟩ (⟨⟨hW, he, ⟨_, rfl, (j_rng _).1, (j_rng _).2⟩⟩, hkp⟩)
            · refine Jz_iconst 0 dX7_shortest_51 (by decide) (fun y51 he51 => ?_)
              refine J_istore_n dX7_shortest_52 rfl (by decide) ?_
              have L53 : ∀ (N : Nat) (V : jH) (i2n53 : Int32) (gs53a0 : List Value) (g22n53 : Int32) (F33n53 : Nat → Int32) (F29n53 : Nat → Int32), WT V → jeff [.inr 5, .inl 33, .inl 29] V0 V → (jis V (.inr 5) a0) → (jis V (.inl 33) b2t33) → (jis V (.inl 29) b35) → (jkc 5 [0, 23, 24] V0 V) → (V a0 = some (.inr (5, gs53a0))) → (gs53a0[22]? = some (.int g22n53)) → (gs53a0[33]? = some (.ref b2t33)) → (gs53a0[21]? = some (.ref b35)) → (V b2t33 = some (.inl (33, 36, .inl F33n53))) → (V b35 = some (.inl (29, 10000, .inl F29n53))) → (0 ≤ i2n53.toInt) → (i1n43.toInt < g22n53.toInt) → ((jcn (-1) F33n53 36 : Int) = g22n53.toInt) → (∀ j : Nat, (j : Int) < g22n53.toInt → 0 ≤ (F29n53 j).toInt ∧ (F29n53 j).toInt ≤ 35 ∧ 0 ≤ (F33n53 (F29n53 j).toInt.toNat).toInt ∧ (F33n53 (F29n53 j).toInt.toNat).toInt ≤ (j : Int)) → (300 - i2n53.toInt).toNat < N → J tS mX7_shortest d 53 [some (.ref a0), some (.int i1n43), some (.int i2n53), none] [] V 0 0 (fun r V => (jPost [.inr 5, .inl 33, .inl 29] V0 (fun r _ => ∃ y : Int32, r = some (.int y) ∧ ((-2147483648) ≤ y.toInt) ∧ (y.toInt ≤ 2147483647))) r V ∧ jkc 5 [0, 23, 24] V0 V) := by
                intro N
                induction N with
                | zero => intro V i2n53 gs53a0 g22n53 F33n53 F29n53 hW he ha0 hb2t33 hb35 hkp hOgs53a0 hFgs53a0_22 hFgs53a0_33 hFgs53a0_21 hAF33n53 hAF29n53 hd hkq hcntb hqueb hm; exact absurd hm (Nat.not_lt_zero _)
                | succ N ih =>
                  intro V i2n53 gs53a0 g22n53 F33n53 F29n53 hW he ha0 hb2t33 hb35 hkp hOgs53a0 hFgs53a0_22 hFgs53a0_33 hFgs53a0_21 hAF33n53 hAF29n53 hd hkq hcntb hqueb hm
                  have ih53 := ih
                  have hri2 := j_rng i2n53
                  have hKgs53a0 : jokO V (jFs 5) gs53a0 := hW _ _ id hOgs53a0
                  have hrgg22n53 : (-2147483648) ≤ g22n53.toInt ∧ g22n53.toInt ≤ 2147483647 := jok_rngI hKgs53a0 rfl hFgs53a0_22
                  obtain ⟨hNF33n53, hvF33n53⟩ := WT_rngI (r := ((-1), 35)) hW id rfl hAF33n53
                  clear hNF33n53
                  obtain ⟨hNF29n53, hvF29n53⟩ := WT_rngI (r := (0, 9999)) hW id rfl hAF29n53
                  clear hNF29n53
                  have hle := jcn_le (c := -1) (F := F33n53) 36
                  refine J_iload_n dX7_shortest_53 rfl ?_
                  refine Jz_iconst 4 dX7_shortest_54 (by decide) (fun y54 he54 => ?_)
                  refine Jz_icmp_ge (tgt := 130) jEq.rf he54 dX7_shortest_55 (by decide) (fun c55 => ?_) (fun c55 => ?_)
                  · refine Jz_iinc 1 dX7_shortest_130 rfl rfl (by decide) jEq.rf (by decide) (by omega) (by omega) (fun y130 he130 => ?_)
                    refine J_goto (tgt := 43) dX7_shortest_133 (by decide) ?_
                    refine J.mask [true, true, false, false] ?_
                    exact ih43 _ y130 gs53a0 g22n53 F33n53 F29n53 hW he ha0 hb2t33 hb35 hkp hOgs53a0 hFgs53a0_22 hFgs53a0_33 hFgs53a0_21 hAF33n53 hAF29n53 (by (try simp only [he130.eq, true_and, and_true]) <;> omega) (by (try simp only [he130.eq, true_and, and_true]) <;> omega) hqueb (by (try simp only [he130.eq, true_and, and_true]) <;> omega)
                  · refine J_aload_n dX7_shortest_58 rfl ?_
                    refine J_aload_n dX7_shortest_59 rfl ?_
                    refine J_get jf_X7_70 dX7_shortest_60 hOgs53a0 hFgs53a0_21 ?_
                    refine J_iload_n dX7_shortest_63 rfl ?_
                    refine Jz_iald (r := (0, 9999)) jEq.rf dX7_shortest_64 hAF29n53 rfl hvF29n53 (by omega) (by omega) (fun y64 hf64 hl64 hh64 => ?_)
                    dsimp only at hl64 hh64
                    have hb64 := hqueb i1n43.toInt.toNat (by omega)
                    rw [hf64] at hb64
                    refine J_iload_n dX7_shortest_65 rfl ?_
                    refine Jw_callV2 (q9 := (RX7, TX7, 34)) moX7_next jw_ml_X7_227 jw_im_X7_next jw_se_X7_next ha0 rfl rfl dX7_shortest_66 (w_X7_next (d - 1) _ a0 y64 i2n53 (by omega) hW  ha0) (by omega) (Nat.zero_le _) (Nat.zero_le _) (Nat.le_of_ble_eq_true rfl) (fun r66 V66 h66 => ?_)
                    obtain ⟨⟨y66, rfl, hl66, hh66⟩, hE66⟩ := h66
                    have hE66 := hE66.symm
                    subst hE66
                    refine J_istore_n dX7_shortest_69 rfl (by decide) ?_
                    refine J_iload_n dX7_shortest_70 rfl ?_
                    refine Jz_iconst (-1) dX7_shortest_71 (by decide) (fun y71 he71 => ?_)
                    refine Jz_icmp_eq (tgt := 124) jEq.rf he71 dX7_shortest_72 (by decide) (fun c72 => ?_) (fun c72 => ?_)
                    · refine Jz_iinc 1 dX7_shortest_124 rfl rfl (by decide) jEq.rf (by decide) (by omega) (by omega) (fun y124 he124 => ?_)
                      refine J_goto (tgt := 53) dX7_shortest_127 (by decide) ?_
                      refine J.mask [true, true, true, false] ?_
                      exact ih53 _ y124 gs53a0 g22n53 F33n53 F29n53 hW he ha0 hb2t33 hb35 hkp hOgs53a0 hFgs53a0_22 hFgs53a0_33 hFgs53a0_21 hAF33n53 hAF29n53 (by (try simp only [he124.eq, true_and, and_true]) <;> omega) (by (try simp only [he124.eq, true_and, and_true]) <;> omega) (by (try simp only [he124.eq, true_and, and_true]) <;> omega) hqueb (by (try simp only [he124.eq, true_and, and_true]) <;> omega)
                    · refine J_aload_n dX7_shortest_75 rfl ?_
                      refine J_get jf_X7_95 dX7_shortest_76 hOgs53a0 hFgs53a0_33 ?_
                      refine J_iload_n dX7_shortest_79 rfl ?_
                      refine Jz_iald (r := ((-1), 35)) jEq.rf dX7_shortest_80 hAF33n53 rfl hvF33n53 (by omega) (by omega) (fun y80 hf80 hl80 hh80 => ?_)
                      dsimp only at hl80 hh80
                      refine Jz_iconst (-1) dX7_shortest_81 (by decide) (fun y81 he81 => ?_)
                      refine Jz_icmp_ne (tgt := 124) jEq.rf he81 dX7_shortest_82 (by decide) (fun c82 => ?_) (fun c82 => ?_)
                      · refine Jz_iinc 1 dX7_shortest_124 rfl rfl (by decide) jEq.rf (by decide) (by omega) (by omega) (fun y124 he124 => ?_)
                        refine J_goto (tgt := 53) dX7_shortest_127 (by decide) ?_
                        refine J.mask [true, true, true, false] ?_
                        exact ih53 _ y124 gs53a0 g22n53 F33n53 F29n53 hW he ha0 hb2t33 hb35 hkp hOgs53a0 hFgs53a0_22 hFgs53a0_33 hFgs53a0_21 hAF33n53 hAF29n53 (by (try simp only [he124.eq, true_and, and_true]) <;> omega) (by (try simp only [he124.eq, true_and, and_true]) <;> omega) (by (try simp only [he124.eq, true_and, and_true]) <;> omega) hqueb (by (try simp only [he124.eq, true_and, and_true]) <;> omega)
                      · have hlt := jcn_lt (c := -1) (F := F33n53) (k := y66.toInt.toNat) (by rw [hf80]; exact c82) 36 (by omega)
                        refine J_aload_n dX7_shortest_85 rfl ?_
                        refine J_get jf_X7_95 dX7_shortest_86 hOgs53a0 hFgs53a0_33 ?_
                        refine J_iload_n dX7_shortest_89 rfl ?_
                        refine J_aload_n dX7_shortest_90 rfl ?_
                        refine J_get jf_X7_95 dX7_shortest_91 hOgs53a0 hFgs53a0_33 ?_
                        refine J_aload_n dX7_shortest_94 rfl ?_
                        refine J_get jf_X7_70 dX7_shortest_95 hOgs53a0 hFgs53a0_21 ?_
                        refine J_iload_n dX7_shortest_98 rfl ?_
                        refine Jz_iald (r := (0, 9999)) jEq.rf dX7_shortest_99 hAF29n53 rfl hvF29n53 (by omega) (by omega) (fun y99 hf99 hl99 hh99 => ?_)
                        dsimp only at hl99 hh99
                        clear hl99 hh99
                        have he99 : jEq y99.toInt (y64.toInt) := by rw [← hf99, hf64]; exact jEq.rf
                        refine Jz_iald (r := ((-1), 35)) he99 dX7_shortest_100 hAF33n53 rfl hvF33n53 (by omega) (by omega) (fun y100 hf100 hl100 hh100 => ?_)
                        dsimp only at hl100 hh100
                        rw [hf100] at hb64
                        refine Jz_iconst 1 dX7_shortest_101 (by decide) (fun y101 he101 => ?_)
                        refine Jz_iadd jEq.rf he101 dX7_shortest_102 (by omega) (by omega) (fun y102 he102 => ?_)
                        refine Jz_iast (r := ((-1), 35)) jEq.rf he102 hW id dX7_shortest_103 hAF33n53 rfl rfl (by omega) (by omega) (by omega) (by omega) (fun V103 G103 hW hx103 hA103 hp103 ho103 => ?_)
                        obtain ⟨hN103, hv103⟩ := WT_rngI (r := ((-1), 35)) hW id rfl hA103
                        clear hN103
                        have he := he.trans (hx103.sub (jsub_of rfl))
                        have hkp := hkp.trans (jkc.of hx103 (jnot_of rfl))
                        have ha0 := ha0.mono hx103.1
                        have hb2t33 := hb2t33.mono hx103.1
                        have hb35 := hb35.mono hx103.1
                        have hOgs53a0 := hx103.2 _ _ hOgs53a0 (jnot_of rfl)
                        have hKgs53a0 := hKgs53a0.mono hx103.1
                        have hAF29n53 := hx103.2 _ _ hAF29n53 (jnot_of rfl)
                        refine J_aload_n dX7_shortest_104 rfl ?_
                        refine J_get jf_X7_70 dX7_shortest_105 hOgs53a0 hFgs53a0_21 ?_
                        refine J_aload_n dX7_shortest_108 rfl ?_
                        refine J_get jf_X7_205 dX7_shortest_109 hOgs53a0 hFgs53a0_22 ?_
                        refine J_iload_n dX7_shortest_112 rfl ?_
                        refine Jz_iast (r := (0, 9999)) jEq.rf jEq.rf hW id dX7_shortest_113 hAF29n53 rfl rfl (by omega) (by omega) (by omega) (by omega) (fun V113 G113 hW hx113 hA113 hp113 ho113 => ?_)
                        obtain ⟨hN113, hv113⟩ := WT_rngI (r := (0, 9999)) hW id rfl hA113
                        clear hN113
                        have he := he.trans (hx113.sub (jsub_of rfl))
                        have hkp := hkp.trans (jkc.of hx113 (jnot_of rfl))
                        have ha0 := ha0.mono hx113.1
                        have hb2t33 := hb2t33.mono hx113.1
                        have hb35 := hb35.mono hx113.1
                        have hOgs53a0 := hx113.2 _ _ hOgs53a0 (jnot_of rfl)
                        have hKgs53a0 := hKgs53a0.mono hx113.1
                        have hA103 := hx113.2 _ _ hA103 (jnot_of rfl)
                        refine J_aload_n dX7_shortest_114 rfl ?_
                        refine J_dup dX7_shortest_115 rfl ?_
                        refine J_get jf_X7_205 dX7_shortest_116 hOgs53a0 hFgs53a0_22 ?_
                        refine Jz_iconst 1 dX7_shortest_119 (by decide) (fun y119 he119 => ?_)
                        refine Jz_iadd jEq.rf he119 dX7_shortest_120 (by omega) (by omega) (fun y120 he120 => ?_)
                        refine Jz_putI hOgs53a0 hW id rfl jf_X7_205 jt_X7_22 he120 dX7_shortest_121 (by omega) (by omega) (fun _ _ => ⟨rfl, rfl⟩) (fun V121 fs121 hW hx121 hO121 hS121 hT121 hB121 => ?_)
                        have hK121 : jokO _ (jFs 5) fs121 := hW _ _ id hO121
                        have hF121_33 := (hT121 33 (by decide)).trans hFgs53a0_33
                        have hF121_21 := (hT121 21 (by decide)).trans hFgs53a0_21
                        have he := he.trans (hx121.sub (jsub_of rfl))
                        have hkp := hkp.trans (jkc.put hOgs53a0 hO121 hT121 hB121 (by decide))
                        have ha0 := ha0.mono hx121.1
                        have hb2t33 := hb2t33.mono hx121.1
                        have hb35 := hb35.mono hx121.1
                        have hA103 := hx121.2 _ _ hA103 (jnot_of rfl)
                        have hA113 := hx121.2 _ _ hA113 (jnot_of rfl)
                        refine Jz_iinc 1 dX7_shortest_124 rfl rfl (by decide) jEq.rf (by decide) (by omega) (by omega) (fun y124 he124 => ?_)
                        refine J_goto (tgt := 53) dX7_shortest_127 (by decide) ?_
                        have hup := jcn_up (c := -1) (show (F33n53 y66.toInt.toNat).toInt = -1 by rw [hf80]; exact c82) (by rw [hp103, he102.eq]; omega) ho103 36 (by omega)
                        refine J.mask [true, true, true, false] ?_
                        exact ih53 _ y124 fs121 y120 G103 G113 hW he ha0 hb2t33 hb35 hkp hO121 hS121 hF121_33 hF121_21 hA103 hA113 (by (try simp only [he124.eq, he120.eq, true_and, and_true]) <;> omega) (by (try simp only [he124.eq, he120.eq, true_and, and_true]) <;> omega) (by (try simp only [he124.eq, he120.eq, true_and, and_true]) <;> omega) (fun j hj => by rw [he120.eq] at hj; exact (Nat.decEq j g22n53.toInt.toNat).byCases (fun hq => by rw [hq, hp113, hp103, he102.eq]; omega) (fun hq => by rw [ho113 j hq]; have h1 := hqueb j (by omega); rw [ho103 _ (fun h9 => by rw [h9, hf80] at h1; omega)]; exact h1)) (by (try simp only [he124.eq, he120.eq, true_and, and_true]) <;> omega)
              refine J.mask [true, true, true, false] ?_
              exact L53 _ _ y51 gs43a0 g22n43 F33n43 F29n43 hW he ha0 hb2t33 hb35 hkp hOgs43a0 hFgs43a0_22 hFgs43a0_33 hFgs43a0_21 hAF33n43 hAF29n43 (by (try simp only [he51.eq, true_and, and_true]) <;> omega) (by (try simp only [he51.eq, true_and, and_true]) <;> omega) (by (try simp only [he51.eq, true_and, and_true]) <;> omega) hque (Nat.lt_succ_self _)
        refine J.mask [true, true, false, false] ?_
        exact L43 _ _ y41 fs31 y30 F33n2 G40 hW he ha0 hb2t33 hb35 hkp hO31 hS31 hF31_33 hF35 hAF33n2 hA40 (by (try simp only [he41.eq, he30.eq, true_and, and_true]) <;> omega) (by rw [he30.eq, jcn_one (n := 36) (by rw [(hz 0 (by omega)).1 rfl]; decide) (fun k h1 h2 => (hz k (by omega)).2 (by omega)) (by omega)]; rfl) (fun j hj => by rw [he30.eq] at hj; rw [show j = Int.toNat 0 by omega, hp40, he39.eq, show (F33n2 (Int.toNat 0)).toInt = 0 from (hz 0 (by omega)).1 rfl]; omega) (Nat.lt_succ_self _)
      · refine J_aload_n dX7_shortest_8 rfl ?_
        refine J_get jf_X7_95 dX7_shortest_9 hO2t33 hF2t33 ?_
        refine J_iload_n dX7_shortest_12 rfl ?_
        refine J_iload_n dX7_shortest_13 rfl ?_
        have K22 : ∀ (t0k22 : Int32), ((i1n2.toInt = 0 ∧ t0k22.toInt = 0) ∨ (¬ i1n2.toInt = 0 ∧ t0k22.toInt = -1)) → J tS mX7_shortest d 22 [some (.ref a0), some (.int i1n2), none, none] [.int t0k22, .int i1n2, .ref b2t33] V 0 0 (fun r V => (jPost [.inr 5, .inl 33, .inl 29] V0 (fun r _ => ∃ y : Int32, r = some (.int y) ∧ ((-2147483648) ≤ y.toInt) ∧ (y.toInt ≤ 2147483647))) r V ∧ jkc 5 [0, 23, 24] V0 V) := by
          intro  t0k22     hk22_0
          refine Jz_iast (r := ((-1), 35)) jEq.rf jEq.rf hW id dX7_shortest_22 hAF33n2 rfl rfl (by omega) (by omega) (by omega) (by omega) (fun V22 G22 hW hx22 hA22 hp22 ho22 => ?_)
          obtain ⟨hN22, hv22⟩ := WT_rngI (r := ((-1), 35)) hW id rfl hA22
          clear hN22
          have he := he.trans (hx22.sub (jsub_of rfl))
          have hkp := hkp.trans (jkc.of hx22 (jnot_of rfl))
          have ha0 := ha0.mono hx22.1
          have hb2t33 := hb2t33.mono hx22.1
          have hO2t33 := hx22.2 _ _ hO2t33 (jnot_of rfl)
          have hK2t33 := hK2t33.mono hx22.1
          refine Jz_iinc 1 dX7_shortest_23 rfl rfl (by decide) jEq.rf (by decide) (by omega) (by omega) (fun y23 he23 => ?_)
          refine J_goto (tgt := 2) dX7_shortest_26 (by decide) ?_
          refine J.mask [true, true, false, false] ?_
          exact ih2 _ y23 G22 hW he ha0 hb2t33 hkp hO2t33 hK2t33 hA22 (by (try simp only [he23.eq, true_and, and_true]) <;> omega) (fun k hk => by rw [he23.eq] at hk; exact (Nat.decEq k i1n2.toInt.toNat).byCases (fun hq => by rw [hq, hp22]; omega) (fun hq => by rw [ho22 k hq]; exact hz k (by omega))) (by (try simp only [he23.eq, true_and, and_true]) <;> omega)
        refine Jz_if_ne (tgt := 21) jEq.rf dX7_shortest_14 (by decide) (fun c14 => ?_) (fun c14 => ?_)
        · refine Jz_iconst (-1) dX7_shortest_21 (by decide) (fun y21 he21 => ?_)
          exact K22  y21  (by (try simp only [he21.eq, true_and, and_true]) <;> omega)
        · refine Jz_iconst 0 dX7_shortest_17 (by decide) (fun y17 he17 => ?_)
          refine J_goto (tgt := 22) dX7_shortest_18 (by decide) ?_
          exact K22  y17  (by (try simp only [he17.eq, true_and, and_true]) <;> omega)
  refine J.mask [true, true, false, false] ?_
  exact L2 _ _ y0 f2tb2t33 hW he ha0 hb2t33 hkp hO2t33 hK2t33 hA2tb2t33 (by (try simp only [he0.eq, true_and, and_true]) <;> omega) (fun k hk => by rw [he0.eq] at hk; omega) (Nat.lt_succ_self _)
set_option maxRecDepth 100000 in
set_option maxHeartbeats 8000000 in
theorem w_X7_hole_out {tS : jTS} (d : Nat) (V0 : jH) (a0 : Nat) (x1 : Int32) (x2 : Int32) (x3 : Int32) (wd : Int32) (hg : Int32) (rh : Nat) (H43 : Nat → Int32) (hd : 1 ≤ d) (hW : WT V0) (ha0 : jis V0 (.inr 5) a0) (hl3 : 0 ≤ x3.toInt) (hh3 : x3.toInt ≤ 1) (hf_wd : jfI V0 a0 5 23 wd) (hf_hg : jfI V0 a0 5 24 hg) (hr_rh : jfR V0 a0 5 25 rh) (ha_H43 : V0 rh = some (.inl (43, 36, .inl H43))) (hp0 : 2 ≤ wd.toInt) (hp1 : 2 ≤ hg.toInt) (hp2 : ¬ (0 ≤ x1.toInt ∧ x1.toInt < wd.toInt ∧ 0 ≤ x2.toInt ∧ x2.toInt < hg.toInt)) : jTot tS mX7_hole d [.ref a0, .int x1, .int x2, .int x3] V0 0 0 (fun r V => (fun r _ => ∃ y : Int32, r = some (.int y) ∧ ((-2147483648) ≤ y.toInt) ∧ (y.toInt ≤ 2147483647) ∧ (y.toInt = -2)) r V ∧ V = V0) := by
  refine jTot.of_J [some (.ref a0), some (.int x1), some (.int x2), some (.int x3), none] moX7_hole (Nat.le_of_ble_eq_true rfl) rfl ?_
  have hrx1 := j_rng x1
  have hrx2 := j_rng x2
  have he : jeff [] V0 V0 := jeff.refl _ _
  obtain ⟨fs_a0, hO_a0, hK_a0⟩ := WT_obj hW id ha0
  have hF_wd := hf_wd.get hO_a0
  have hrwd : 2 ≤ wd.toInt ∧ wd.toInt ≤ 6 := jok_rngI hK_a0 rfl hF_wd
  have hF_hg := hf_hg.get hO_a0
  have hrhg : 2 ≤ hg.toInt ∧ hg.toInt ≤ 6 := jok_rngI hK_a0 rfl hF_hg
  have hF_rh := hr_rh.get hO_a0
  obtain ⟨w_rh, hFq_rh, b_rh, hbq_rh, hb_rh⟩ := hK_a0.2 25 (.inr (some (.inl 43))) rfl
  cases hF_rh.symm.trans (hFq_rh.trans (congrArg some hbq_rh))
  obtain ⟨hN_H43, hv_H43⟩ := WT_rngI (r := (0, 1)) hW id rfl ha_H43
  clear hN_H43
  refine J_iload_n dX7_hole_0 rfl ?_
  refine Jz_iconst 0 dX7_hole_1 (by decide) (fun y1 he1 => ?_)
  refine J_aload_n dX7_hole_2 rfl ?_
  refine J_get jf_X7_73 dX7_hole_3 hO_a0 hF_wd ?_
  refine Jz_iconst 1 dX7_hole_6 (by decide) (fun y6 he6 => ?_)
  refine Jz_isub jEq.rf he6 dX7_hole_7 (by omega) (by omega) (fun y7 he7 => ?_)
  refine J_callS3 moX7_in jw_ml_X7_105 jw_st_X7_in dX7_hole_8 (w_X7_in (d - 1) _ x1 y1 y7 (by omega)   ) (by omega) (Nat.zero_le _) (Nat.zero_le _) (Nat.le_of_ble_eq_true rfl) (fun r8 V8 h8 => ?_)
  obtain ⟨⟨y8, rfl, hl8, hh8, hI8_0, hI8_1⟩, hE8⟩ := h8
  have hE8 := hE8.symm
  subst hE8
  refine Jz_if_eq (tgt := 28) jEq.rf dX7_hole_11 (by decide) (fun c11 => ?_) (fun c11 => ?_)
  · have q11_1 := hI8_1.of (by omega)
    try simp only [he1.eq, he7.eq] at q11_1
    refine Jz_bipush (-2) dX7_hole_28 (by decide) (fun y28 he28 => ?_)
    exact J_ret (r := some (.int _)) dX7_hole_30 ⟨rfl, _, rfl, rfl⟩ (⟨⟨_, rfl, (j_rng _).1, (j_rng _).2, (by (try simp only [he28.eq, true_and, and_true]) <;> omega)⟩, rfl⟩)
  · have q11_0 := hI8_0.of (by omega)
    try simp only [he1.eq, he7.eq] at q11_0
    refine J_iload_n dX7_hole_14 rfl ?_
    refine Jz_iconst 0 dX7_hole_15 (by decide) (fun y15 he15 => ?_)
    refine J_aload_n dX7_hole_16 rfl ?_
    refine J_get jf_X7_77 dX7_hole_17 hO_a0 hF_hg ?_
    refine Jz_iconst 1 dX7_hole_20 (by decide) (fun y20 he20 => ?_)
    refine Jz_isub jEq.rf he20 dX7_hole_21 (by omega) (by omega) (fun y21 he21 => ?_)
    refine J_callS3 moX7_in jw_ml_X7_105 jw_st_X7_in dX7_hole_22 (w_X7_in (d - 1) _ x2 y15 y21 (by omega)   ) (by omega) (Nat.zero_le _) (Nat.zero_le _) (Nat.le_of_ble_eq_true rfl) (fun r22 V22 h22 => ?_)
    obtain ⟨⟨y22, rfl, hl22, hh22, hI22_0, hI22_1⟩, hE22⟩ := h22
    have hE22 := hE22.symm
    subst hE22
    refine Jz_if_ne (tgt := 31) jEq.rf dX7_hole_25 (by decide) (fun c25 => ?_) (fun c25 => ?_)
    · have q25_0 := hI22_0.of (by omega)
      try simp only [he15.eq, he21.eq] at q25_0
      exact False.elim (by omega)
    · have q25_1 := hI22_1.of (by omega)
      try simp only [he15.eq, he21.eq] at q25_1
      refine Jz_bipush (-2) dX7_hole_28 (by decide) (fun y28 he28 => ?_)
      exact J_ret (r := some (.int _)) dX7_hole_30 ⟨rfl, _, rfl, rfl⟩ (⟨⟨_, rfl, (j_rng _).1, (j_rng _).2, (by (try simp only [he28.eq, true_and, and_true]) <;> omega)⟩, rfl⟩)
set_option maxRecDepth 100000 in
set_option maxHeartbeats 8000000 in
theorem w_X7_hole_same {tS : jTS} (d : Nat) (V0 : jH) (a0 : Nat) (x1 : Int32) (x2 : Int32) (x3 : Int32) (wd : Int32) (hg : Int32) (rh : Nat) (H43 : Nat → Int32) (hd : 1 ≤ d) (hW : WT V0) (ha0 : jis V0 (.inr 5) a0) (hl3 : 0 ≤ x3.toInt) (hh3 : x3.toInt ≤ 1) (hf_wd : jfI V0 a0 5 23 wd) (hf_hg : jfI V0 a0 5 24 hg) (hr_rh : jfR V0 a0 5 25 rh) (ha_H43 : V0 rh = some (.inl (43, 36, .inl H43))) (hp0 : 2 ≤ wd.toInt) (hp1 : 2 ≤ hg.toInt) (hp2 : 0 ≤ x1.toInt ∧ x1.toInt < wd.toInt ∧ 0 ≤ x2.toInt ∧ x2.toInt < hg.toInt) (hp3 : (H43 (x1.toInt + wd.toInt * x2.toInt).toNat).toInt = x3.toInt ∨ (x1.toInt = 0 ∧ x2.toInt = 0 ∨ x1.toInt = wd.toInt - 1 ∧ x2.toInt = hg.toInt - 1)) : jTot tS mX7_hole d [.ref a0, .int x1, .int x2, .int x3] V0 0 0 (fun r V => (fun r _ => ∃ y : Int32, r = some (.int y) ∧ ((-2147483648) ≤ y.toInt) ∧ (y.toInt ≤ 2147483647) ∧ (y.toInt = -3)) r V ∧ V = V0) := by
  refine jTot.of_J [some (.ref a0), some (.int x1), some (.int x2), some (.int x3), none] moX7_hole (Nat.le_of_ble_eq_true rfl) rfl ?_
  have hrx1 := j_rng x1
  have hrx2 := j_rng x2
  have he : jeff [] V0 V0 := jeff.refl _ _
  obtain ⟨fs_a0, hO_a0, hK_a0⟩ := WT_obj hW id ha0
  have hF_wd := hf_wd.get hO_a0
  have hrwd : 2 ≤ wd.toInt ∧ wd.toInt ≤ 6 := jok_rngI hK_a0 rfl hF_wd
  have hF_hg := hf_hg.get hO_a0
  have hrhg : 2 ≤ hg.toInt ∧ hg.toInt ≤ 6 := jok_rngI hK_a0 rfl hF_hg
  have hF_rh := hr_rh.get hO_a0
  obtain ⟨w_rh, hFq_rh, b_rh, hbq_rh, hb_rh⟩ := hK_a0.2 25 (.inr (some (.inl 43))) rfl
  cases hF_rh.symm.trans (hFq_rh.trans (congrArg some hbq_rh))
  obtain ⟨hN_H43, hv_H43⟩ := WT_rngI (r := (0, 1)) hW id rfl ha_H43
  clear hN_H43
  refine J_iload_n dX7_hole_0 rfl ?_
  refine Jz_iconst 0 dX7_hole_1 (by decide) (fun y1 he1 => ?_)
  refine J_aload_n dX7_hole_2 rfl ?_
  refine J_get jf_X7_73 dX7_hole_3 hO_a0 hF_wd ?_
  refine Jz_iconst 1 dX7_hole_6 (by decide) (fun y6 he6 => ?_)
  refine Jz_isub jEq.rf he6 dX7_hole_7 (by omega) (by omega) (fun y7 he7 => ?_)
  refine J_callS3 moX7_in jw_ml_X7_105 jw_st_X7_in dX7_hole_8 (w_X7_in (d - 1) _ x1 y1 y7 (by omega)   ) (by omega) (Nat.zero_le _) (Nat.zero_le _) (Nat.le_of_ble_eq_true rfl) (fun r8 V8 h8 => ?_)
  obtain ⟨⟨y8, rfl, hl8, hh8, hI8_0, hI8_1⟩, hE8⟩ := h8
  have hE8 := hE8.symm
  subst hE8
  refine Jz_if_eq (tgt := 28) jEq.rf dX7_hole_11 (by decide) (fun c11 => ?_) (fun c11 => ?_)
  · have q11_1 := hI8_1.of (by omega)
    try simp only [he1.eq, he7.eq] at q11_1
    exact False.elim (by omega)
  · have q11_0 := hI8_0.of (by omega)
    try simp only [he1.eq, he7.eq] at q11_0
    refine J_iload_n dX7_hole_14 rfl ?_
    refine Jz_iconst 0 dX7_hole_15 (by decide) (fun y15 he15 => ?_)
    refine J_aload_n dX7_hole_16 rfl ?_
    refine J_get jf_X7_77 dX7_hole_17 hO_a0 hF_hg ?_
    refine Jz_iconst 1 dX7_hole_20 (by decide) (fun y20 he20 => ?_)
    refine Jz_isub jEq.rf he20 dX7_hole_21 (by omega) (by omega) (fun y21 he21 => ?_)
    refine J_callS3 moX7_in jw_ml_X7_105 jw_st_X7_in dX7_hole_22 (w_X7_in (d - 1) _ x2 y15 y21 (by omega)   ) (by omega) (Nat.zero_le _) (Nat.zero_le _) (Nat.le_of_ble_eq_true rfl) (fun r22 V22 h22 => ?_)
    obtain ⟨⟨y22, rfl, hl22, hh22, hI22_0, hI22_1⟩, hE22⟩ := h22
    have hE22 := hE22.symm
    subst hE22
    refine Jz_if_ne (tgt := 31) jEq.rf dX7_hole_25 (by decide) (fun c25 => ?_) (fun c25 => ?_)
    · have q25_0 := hI22_0.of (by omega)
      try simp only [he15.eq, he21.eq] at q25_0
      refine J_iload_n dX7_hole_31 rfl ?_
      refine J_aload_n dX7_hole_32 rfl ?_
      refine J_get jf_X7_73 dX7_hole_33 hO_a0 hF_wd ?_
      refine J_iload_n dX7_hole_36 rfl ?_
      have hm0 := Int.mul_nonneg (show 0 ≤ wd.toInt by omega) (show 0 ≤ x2.toInt by omega)
      have hm1 := Int.mul_le_mul_of_nonneg_left (show x2.toInt ≤ 5 by omega) (show 0 ≤ wd.toInt by omega)
      have hz0 := jcell_zero (x := x1.toInt) (y := x2.toInt) (w := wd.toInt) (by omega) (by omega) (by omega)
      have hzl := jcell_last (x := x1.toInt) (y := x2.toInt) (w := wd.toInt) (h := hg.toInt) (by omega) (by omega) (by omega) (by omega)
      have hm2 := Int.mul_nonneg (show 0 ≤ wd.toInt by omega) (show 0 ≤ hg.toInt by omega)
      have hm3 := Int.mul_le_mul_of_nonneg_left (show hg.toInt ≤ 6 by omega) (show 0 ≤ wd.toInt by omega)
      refine Jz_imul jEq.rf jEq.rf dX7_hole_37 (by omega) (by omega) (fun y37 he37 => ?_)
      refine Jz_iadd jEq.rf he37 dX7_hole_38 (by omega) (by omega) (fun y38 he38 => ?_)
      refine J_istore dX7_hole_39 rfl (by decide) ?_
      refine J_aload_n dX7_hole_41 rfl ?_
      refine J_get jf_X7_80 dX7_hole_42 hO_a0 hF_rh ?_
      refine J_iload dX7_hole_45 rfl ?_
      refine Jz_zald (r := (0, 1)) he38 dX7_hole_47 ha_H43 rfl hv_H43 (by omega) (by omega) (fun y47 hf47 hl47 hh47 => ?_)
      dsimp only at hl47 hh47
      refine J_iload_n dX7_hole_48 rfl ?_
      refine Jz_icmp_eq (tgt := 73) jEq.rf jEq.rf dX7_hole_49 (by decide) (fun c49 => ?_) (fun c49 => ?_)
      · refine Jz_bipush (-3) dX7_hole_73 (by decide) (fun y73 he73 => ?_)
        exact J_ret (r := some (.int _)) dX7_hole_75 ⟨rfl, _, rfl, rfl⟩ (⟨⟨_, rfl, (j_rng _).1, (j_rng _).2, (by (try simp only [he73.eq, true_and, and_true]) <;> omega)⟩, rfl⟩)
      · refine J_iload dX7_hole_52 rfl ?_
        refine Jz_if_eq (tgt := 73) he38 dX7_hole_54 (by decide) (fun c54 => ?_) (fun c54 => ?_)
        · refine Jz_bipush (-3) dX7_hole_73 (by decide) (fun y73 he73 => ?_)
          exact J_ret (r := some (.int _)) dX7_hole_75 ⟨rfl, _, rfl, rfl⟩ (⟨⟨_, rfl, (j_rng _).1, (j_rng _).2, (by (try simp only [he73.eq, true_and, and_true]) <;> omega)⟩, rfl⟩)
        · refine J_iload dX7_hole_57 rfl ?_
          refine J_aload_n dX7_hole_59 rfl ?_
          refine J_get jf_X7_73 dX7_hole_60 hO_a0 hF_wd ?_
          refine J_aload_n dX7_hole_63 rfl ?_
          refine J_get jf_X7_77 dX7_hole_64 hO_a0 hF_hg ?_
          refine Jz_imul jEq.rf jEq.rf dX7_hole_67 (by omega) (by omega) (fun y67 he67 => ?_)
          refine Jz_iconst 1 dX7_hole_68 (by decide) (fun y68 he68 => ?_)
          refine Jz_isub he67 he68 dX7_hole_69 (by omega) (by omega) (fun y69 he69 => ?_)
          refine Jz_icmp_ne (tgt := 76) he38 he69 dX7_hole_70 (by decide) (fun c70 => ?_) (fun c70 => ?_)
          · exact False.elim (by rw [hf47] at hp3; omega)
          · refine Jz_bipush (-3) dX7_hole_73 (by decide) (fun y73 he73 => ?_)
            exact J_ret (r := some (.int _)) dX7_hole_75 ⟨rfl, _, rfl, rfl⟩ (⟨⟨_, rfl, (j_rng _).1, (j_rng _).2, (by (try simp only [he73.eq, true_and, and_true]) <;> omega)⟩, rfl⟩)
    · have q25_1 := hI22_1.of (by omega)
      try simp only [he15.eq, he21.eq] at q25_1
      exact False.elim (by omega)
set_option maxRecDepth 100000 in
set_option maxHeartbeats 8000000 in
theorem w_X7_hole_turn {tS : jTS} (d : Nat) (V0 : jH) (a0 : Nat) (x1 : Int32) (x2 : Int32) (x3 : Int32) (wd : Int32) (hg : Int32) (rh : Nat) (H43 : Nat → Int32) (hd : 1 ≤ d) (hW : WT V0) (ha0 : jis V0 (.inr 5) a0) (hl3 : 0 ≤ x3.toInt) (hh3 : x3.toInt ≤ 1) (hf_wd : jfI V0 a0 5 23 wd) (hf_hg : jfI V0 a0 5 24 hg) (hr_rh : jfR V0 a0 5 25 rh) (ha_H43 : V0 rh = some (.inl (43, 36, .inl H43))) (hp0 : 2 ≤ wd.toInt) (hp1 : 2 ≤ hg.toInt) (hp2 : 0 ≤ x1.toInt ∧ x1.toInt < wd.toInt ∧ 0 ≤ x2.toInt ∧ x2.toInt < hg.toInt) (hp3 : ¬ (H43 (x1.toInt + wd.toInt * x2.toInt).toNat).toInt = x3.toInt) (hp4 : ¬ (x1.toInt = 0 ∧ x2.toInt = 0 ∨ x1.toInt = wd.toInt - 1 ∧ x2.toInt = hg.toInt - 1)) : jTot tS mX7_hole d [.ref a0, .int x1, .int x2, .int x3] V0 0 0 (fun r V => (jPost [.inr 5, .inl 43] V0 (fun r _ => ∃ y : Int32, r = some (.int y) ∧ ((-2147483648) ≤ y.toInt) ∧ (y.toInt ≤ 2147483647) ∧ (y.toInt = 1))) r V ∧ (∃ G : Nat → Int32, V rh = some (.inl (43, 36, .inl G)) ∧ G (x1.toInt + wd.toInt * x2.toInt).toNat = x3 ∧ ∀ j : Nat, j ≠ (x1.toInt + wd.toInt * x2.toInt).toNat → G j = H43 j) ∧ jkc 5 [0, 23, 24] V0 V) := by
  refine jTot.of_J [some (.ref a0), some (.int x1), some (.int x2), some (.int x3), none] moX7_hole (Nat.le_of_ble_eq_true rfl) rfl ?_
  have hrx1 := j_rng x1
  have hrx2 := j_rng x2
  have he : jeff [.inr 5, .inl 43] V0 V0 := jeff.refl _ _
  have hkp : jkc 5 [0, 23, 24] V0 V0 := jkc.rf
  obtain ⟨fs_a0, hO_a0, hK_a0⟩ := WT_obj hW id ha0
  have hF_wd := hf_wd.get hO_a0
  have hrwd : 2 ≤ wd.toInt ∧ wd.toInt ≤ 6 := jok_rngI hK_a0 rfl hF_wd
  have hF_hg := hf_hg.get hO_a0
  have hrhg : 2 ≤ hg.toInt ∧ hg.toInt ≤ 6 := jok_rngI hK_a0 rfl hF_hg
  have hF_rh := hr_rh.get hO_a0
  obtain ⟨w_rh, hFq_rh, b_rh, hbq_rh, hb_rh⟩ := hK_a0.2 25 (.inr (some (.inl 43))) rfl
  cases hF_rh.symm.trans (hFq_rh.trans (congrArg some hbq_rh))
  obtain ⟨hN_H43, hv_H43⟩ := WT_rngI (r := (0, 1)) hW id rfl ha_H43
  clear hN_H43
  refine J_iload_n dX7_hole_0 rfl ?_
  refine Jz_iconst 0 dX7_hole_1 (by decide) (fun y1 he1 => ?_)
  refine J_aload_n dX7_hole_2 rfl ?_
  refine J_get jf_X7_73 dX7_hole_3 hO_a0 hF_wd ?_
  refine Jz_iconst 1 dX7_hole_6 (by decide) (fun y6 he6 => ?_)
  refine Jz_isub jEq.rf he6 dX7_hole_7 (by omega) (by omega) (fun y7 he7 => ?_)
  refine J_callS3 moX7_in jw_ml_X7_105 jw_st_X7_in dX7_hole_8 (w_X7_in (d - 1) _ x1 y1 y7 (by omega)   ) (by omega) (Nat.zero_le _) (Nat.zero_le _) (Nat.le_of_ble_eq_true rfl) (fun r8 V8 h8 => ?_)
  obtain ⟨⟨y8, rfl, hl8, hh8, hI8_0, hI8_1⟩, hE8⟩ := h8
  have hE8 := hE8.symm
  subst hE8
  refine Jz_if_eq (tgt := 28) jEq.rf dX7_hole_11 (by decide) (fun c11 => ?_) (fun c11 => ?_)
  · have q11_1 := hI8_1.of (by omega)
    try simp only [he1.eq, he7.eq] at q11_1
    exact False.elim (by omega)
  · have q11_0 := hI8_0.of (by omega)
    try simp only [he1.eq, he7.eq] at q11_0
    refine J_iload_n dX7_hole_14 rfl ?_
    refine Jz_iconst 0 dX7_hole_15 (by decide) (fun y15 he15 => ?_)
    refine J_aload_n dX7_hole_16 rfl ?_
    refine J_get jf_X7_77 dX7_hole_17 hO_a0 hF_hg ?_
    refine Jz_iconst 1 dX7_hole_20 (by decide) (fun y20 he20 => ?_)
    refine Jz_isub jEq.rf he20 dX7_hole_21 (by omega) (by omega) (fun y21 he21 => ?_)
    refine J_callS3 moX7_in jw_ml_X7_105 jw_st_X7_in dX7_hole_22 (w_X7_in (d - 1) _ x2 y15 y21 (by omega)   ) (by omega) (Nat.zero_le _) (Nat.zero_le _) (Nat.le_of_ble_eq_true rfl) (fun r22 V22 h22 => ?_)
    obtain ⟨⟨y22, rfl, hl22, hh22, hI22_0, hI22_1⟩, hE22⟩ := h22
    have hE22 := hE22.symm
    subst hE22
    refine Jz_if_ne (tgt := 31) jEq.rf dX7_hole_25 (by decide) (fun c25 => ?_) (fun c25 => ?_)
    · have q25_0 := hI22_0.of (by omega)
      try simp only [he15.eq, he21.eq] at q25_0
      refine J_iload_n dX7_hole_31 rfl ?_
      refine J_aload_n dX7_hole_32 rfl ?_
      refine J_get jf_X7_73 dX7_hole_33 hO_a0 hF_wd ?_
      refine J_iload_n dX7_hole_36 rfl ?_
      have hm0 := Int.mul_nonneg (show 0 ≤ wd.toInt by omega) (show 0 ≤ x2.toInt by omega)
      have hm1 := Int.mul_le_mul_of_nonneg_left (show x2.toInt ≤ 5 by omega) (show 0 ≤ wd.toInt by omega)
      have hz0 := jcell_zero (x := x1.toInt) (y := x2.toInt) (w := wd.toInt) (by omega) (by omega) (by omega)
      have hzl := jcell_last (x := x1.toInt) (y := x2.toInt) (w := wd.toInt) (h := hg.toInt) (by omega) (by omega) (by omega) (by omega)
      have hm2 := Int.mul_nonneg (show 0 ≤ wd.toInt by omega) (show 0 ≤ hg.toInt by omega)
      have hm3 := Int.mul_le_mul_of_nonneg_left (show hg.toInt ≤ 6 by omega) (show 0 ≤ wd.toInt by omega)
      refine Jz_imul jEq.rf jEq.rf dX7_hole_37 (by omega) (by omega) (fun y37 he37 => ?_)
      refine Jz_iadd jEq.rf he37 dX7_hole_38 (by omega) (by omega) (fun y38 he38 => ?_)
      refine J_istore dX7_hole_39 rfl (by decide) ?_
      refine J_aload_n dX7_hole_41 rfl ?_
      refine J_get jf_X7_80 dX7_hole_42 hO_a0 hF_rh ?_
      refine J_iload dX7_hole_45 rfl ?_
      refine Jz_zald (r := (0, 1)) he38 dX7_hole_47 ha_H43 rfl hv_H43 (by omega) (by omega) (fun y47 hf47 hl47 hh47 => ?_)
      dsimp only at hl47 hh47
      refine J_iload_n dX7_hole_48 rfl ?_
      refine Jz_icmp_eq (tgt := 73) jEq.rf jEq.rf dX7_hole_49 (by decide) (fun c49 => ?_) (fun c49 => ?_)
      · exact False.elim (by rw [hf47] at hp3; omega)
      · refine J_iload dX7_hole_52 rfl ?_
        refine Jz_if_eq (tgt := 73) he38 dX7_hole_54 (by decide) (fun c54 => ?_) (fun c54 => ?_)
        · exact False.elim (by rw [hf47] at hp3; omega)
        · refine J_iload dX7_hole_57 rfl ?_
          refine J_aload_n dX7_hole_59 rfl ?_
          refine J_get jf_X7_73 dX7_hole_60 hO_a0 hF_wd ?_
          refine J_aload_n dX7_hole_63 rfl ?_
          refine J_get jf_X7_77 dX7_hole_64 hO_a0 hF_hg ?_
          refine Jz_imul jEq.rf jEq.rf dX7_hole_67 (by omega) (by omega) (fun y67 he67 => ?_)
          refine Jz_iconst 1 dX7_hole_68 (by decide) (fun y68 he68 => ?_)
          refine Jz_isub he67 he68 dX7_hole_69 (by omega) (by omega) (fun y69 he69 => ?_)
          refine Jz_icmp_ne (tgt := 76) he38 he69 dX7_hole_70 (by decide) (fun c70 => ?_) (fun c70 => ?_)
          · refine J_aload_n dX7_hole_76 rfl ?_
            refine J_get jf_X7_80 dX7_hole_77 hO_a0 hF_rh ?_
            refine J_iload dX7_hole_80 rfl ?_
            refine J_iload_n dX7_hole_82 rfl ?_
            refine Jz_zast (r := (0, 1)) he38 jEq.rf hW id dX7_hole_83 ha_H43 rfl rfl (by omega) (by omega) (by omega) (by omega) (fun _ h => vp_nar_b (by omega) (by omega)) (fun V83 G83 hW hx83 hA83 hp83 ho83 => ?_)
            obtain ⟨hN83, hv83⟩ := WT_rngI (r := (0, 1)) hW id rfl hA83
            clear hN83
            have he := he.trans (hx83.sub (jsub_of rfl))
            have hkp := hkp.trans (jkc.of hx83 (jnot_of rfl))
            have ha0 := ha0.mono hx83.1
            have hb_rh := hb_rh.mono hx83.1
            have hO_a0 := hx83.2 _ _ hO_a0 (jnot_of rfl)
            have hK_a0 := hK_a0.mono hx83.1
            refine J_aload_n dX7_hole_84 rfl ?_
            refine Jz_iconst 0 dX7_hole_85 (by decide) (fun y85 he85 => ?_)
            refine Jz_putI hO_a0 hW id rfl jf_X7_214 jt_X7_26 he85 dX7_hole_86 (by omega) (by omega) (fun _ h => ⟨nar_b (by omega) (by omega), fit_b (by omega) (by omega)⟩) (fun V86 fs86 hW hx86 hO86 hS86 hT86 hB86 => ?_)
            have hK86 : jokO _ (jFs 5) fs86 := hW _ _ id hO86
            have hF86_23 := (hT86 23 (by decide)).trans hF_wd
            have hF86_24 := (hT86 24 (by decide)).trans hF_hg
            have hF86_25 := (hT86 25 (by decide)).trans hF_rh
            have he := he.trans (hx86.sub (jsub_of rfl))
            have hkp := hkp.trans (jkc.put hO_a0 hO86 hT86 hB86 (by decide))
            have ha0 := ha0.mono hx86.1
            have hb_rh := hb_rh.mono hx86.1
            have hA83 := hx86.2 _ _ hA83 (jnot_of rfl)
            refine Jz_iconst 1 dX7_hole_89 (by decide) (fun y89 he89 => ?_)
            exact J_ret (r := some (.int _)) dX7_hole_90 ⟨rfl, _, rfl, rfl⟩ (⟨⟨hW, he, ⟨_, rfl, (j_rng _).1, (j_rng _).2, (by (try simp only [he89.eq, true_and, and_true]) <;> omega)⟩⟩, ⟨G83, hA83, hp83, ho83⟩, hkp⟩)
          · exact False.elim (by rw [hf47] at hp3; omega)
    · have q25_1 := hI22_1.of (by omega)
      try simp only [he15.eq, he21.eq] at q25_1
      exact False.elim (by omega)
set_option maxRecDepth 100000 in
set_option maxHeartbeats 8000000 in
theorem w_X7_board_no {tS : jTS} (d : Nat) (V0 : jH) (a0 : Nat) (x1 : Int32) (x2 : Int32) (hd : 1 ≤ d) (hW : WT V0) (ha0 : jis V0 (.inr 5) a0) (hp0 : ¬ (2 ≤ x1.toInt ∧ x1.toInt ≤ 6 ∧ 2 ≤ x2.toInt ∧ x2.toInt ≤ 6)) : jTot tS mX7_board d [.ref a0, .int x1, .int x2] V0 0 0 (fun r V => (fun r _ => ∃ y : Int32, r = some (.int y) ∧ ((-2147483648) ≤ y.toInt) ∧ (y.toInt ≤ 2147483647) ∧ (y.toInt = -2)) r V ∧ V = V0) := by
  refine jTot.of_J [some (.ref a0), some (.int x1), some (.int x2), none] moX7_board (Nat.le_of_ble_eq_true rfl) rfl ?_
  have hrx1 := j_rng x1
  have hrx2 := j_rng x2
  have he : jeff [] V0 V0 := jeff.refl _ _
  refine J_iload_n dX7_board_0 rfl ?_
  refine Jz_iconst 2 dX7_board_1 (by decide) (fun y1 he1 => ?_)
  refine Jz_bipush 6 dX7_board_2 (by decide) (fun y2 he2 => ?_)
  refine J_callS3 moX7_in jw_ml_X7_105 jw_st_X7_in dX7_board_4 (w_X7_in (d - 1) _ x1 y1 y2 (by omega)   ) (by omega) (Nat.zero_le _) (Nat.zero_le _) (Nat.le_of_ble_eq_true rfl) (fun r4 V4 h4 => ?_)
  obtain ⟨⟨y4, rfl, hl4, hh4, hI4_0, hI4_1⟩, hE4⟩ := h4
  have hE4 := hE4.symm
  subst hE4
  refine Jz_if_eq (tgt := 20) jEq.rf dX7_board_7 (by decide) (fun c7 => ?_) (fun c7 => ?_)
  · have q7_1 := hI4_1.of (by omega)
    try simp only [he1.eq, he2.eq] at q7_1
    refine Jz_bipush (-2) dX7_board_20 (by decide) (fun y20 he20 => ?_)
    exact J_ret (r := some (.int _)) dX7_board_22 ⟨rfl, _, rfl, rfl⟩ (⟨⟨_, rfl, (j_rng _).1, (j_rng _).2, (by (try simp only [he20.eq, true_and, and_true]) <;> omega)⟩, rfl⟩)
  · have q7_0 := hI4_0.of (by omega)
    try simp only [he1.eq, he2.eq] at q7_0
    refine J_iload_n dX7_board_10 rfl ?_
    refine Jz_iconst 2 dX7_board_11 (by decide) (fun y11 he11 => ?_)
    refine Jz_bipush 6 dX7_board_12 (by decide) (fun y12 he12 => ?_)
    refine J_callS3 moX7_in jw_ml_X7_105 jw_st_X7_in dX7_board_14 (w_X7_in (d - 1) _ x2 y11 y12 (by omega)   ) (by omega) (Nat.zero_le _) (Nat.zero_le _) (Nat.le_of_ble_eq_true rfl) (fun r14 V14 h14 => ?_)
    obtain ⟨⟨y14, rfl, hl14, hh14, hI14_0, hI14_1⟩, hE14⟩ := h14
    have hE14 := hE14.symm
    subst hE14
    refine Jz_if_ne (tgt := 23) jEq.rf dX7_board_17 (by decide) (fun c17 => ?_) (fun c17 => ?_)
    · have q17_0 := hI14_0.of (by omega)
      try simp only [he11.eq, he12.eq] at q17_0
      exact False.elim (by omega)
    · have q17_1 := hI14_1.of (by omega)
      try simp only [he11.eq, he12.eq] at q17_1
      refine Jz_bipush (-2) dX7_board_20 (by decide) (fun y20 he20 => ?_)
      exact J_ret (r := some (.int _)) dX7_board_22 ⟨rfl, _, rfl, rfl⟩ (⟨⟨_, rfl, (j_rng _).1, (j_rng _).2, (by (try simp only [he20.eq, true_and, and_true]) <;> omega)⟩, rfl⟩)
set_option maxRecDepth 100000 in
set_option maxHeartbeats 8000000 in
theorem w_X7_board_yes {tS : jTS} (d : Nat) (V0 : jH) (a0 : Nat) (x1 : Int32) (x2 : Int32) (rh : Nat) (hd : 1 ≤ d) (hW : WT V0) (ha0 : jis V0 (.inr 5) a0) (hr_rh : jfR V0 a0 5 25 rh) (hp0 : 2 ≤ x1.toInt ∧ x1.toInt ≤ 6 ∧ 2 ≤ x2.toInt ∧ x2.toInt ≤ 6) : jTot tS mX7_board d [.ref a0, .int x1, .int x2] V0 0 0 (fun r V => (jPost [.inr 5, .inl 43] V0 (fun r _ => ∃ y : Int32, r = some (.int y) ∧ ((-2147483648) ≤ y.toInt) ∧ (y.toInt ≤ 2147483647) ∧ (y.toInt = 1))) r V ∧ (∃ G : Nat → Int32, V rh = some (.inl (43, 36, .inl G)) ∧ ∀ j : Nat, j < 36 → (G j).toInt = 0) ∧ jkc 5 [0] V0 V ∧ (∃ w2 : Int32, jfI V a0 5 23 w2 ∧ (w2.toInt = x1.toInt)) ∧ (∃ h2 : Int32, jfI V a0 5 24 h2 ∧ (h2.toInt = x2.toInt))) := by
  refine jTot.of_J [some (.ref a0), some (.int x1), some (.int x2), none] moX7_board (Nat.le_of_ble_eq_true rfl) rfl ?_
  have hrx1 := j_rng x1
  have hrx2 := j_rng x2
  have he : jeff [.inr 5, .inl 43] V0 V0 := jeff.refl _ _
  have hkp : jkc 5 [0] V0 V0 := jkc.rf
  obtain ⟨fs_a0, hO_a0, hK_a0⟩ := WT_obj hW id ha0
  have hF_rh := hr_rh.get hO_a0
  obtain ⟨w_rh, hFq_rh, b_rh, hbq_rh, hb_rh⟩ := hK_a0.2 25 (.inr (some (.inl 43))) rfl
  cases hF_rh.symm.trans (hFq_rh.trans (congrArg some hbq_rh))
  refine J_iload_n dX7_board_0 rfl ?_
  refine Jz_iconst 2 dX7_board_1 (by decide) (fun y1 he1 => ?_)
  refine Jz_bipush 6 dX7_board_2 (by decide) (fun y2 he2 => ?_)
  refine J_callS3 moX7_in jw_ml_X7_105 jw_st_X7_in dX7_board_4 (w_X7_in (d - 1) _ x1 y1 y2 (by omega)   ) (by omega) (Nat.zero_le _) (Nat.zero_le _) (Nat.le_of_ble_eq_true rfl) (fun r4 V4 h4 => ?_)
  obtain ⟨⟨y4, rfl, hl4, hh4, hI4_0, hI4_1⟩, hE4⟩ := h4
  have hE4 := hE4.symm
  subst hE4
  refine Jz_if_eq (tgt := 20) jEq.rf dX7_board_7 (by decide) (fun c7 => ?_) (fun c7 => ?_)
  · have q7_1 := hI4_1.of (by omega)
    try simp only [he1.eq, he2.eq] at q7_1
    exact False.elim (by omega)
  · have q7_0 := hI4_0.of (by omega)
    try simp only [he1.eq, he2.eq] at q7_0
    refine J_iload_n dX7_board_10 rfl ?_
    refine Jz_iconst 2 dX7_board_11 (by decide) (fun y11 he11 => ?_)
    refine Jz_bipush 6 dX7_board_12 (by decide) (fun y12 he12 => ?_)
    refine J_callS3 moX7_in jw_ml_X7_105 jw_st_X7_in dX7_board_14 (w_X7_in (d - 1) _ x2 y11 y12 (by omega)   ) (by omega) (Nat.zero_le _) (Nat.zero_le _) (Nat.le_of_ble_eq_true rfl) (fun r14 V14 h14 => ?_)
    obtain ⟨⟨y14, rfl, hl14, hh14, hI14_0, hI14_1⟩, hE14⟩ := h14
    have hE14 := hE14.symm
    subst hE14
    refine Jz_if_ne (tgt := 23) jEq.rf dX7_board_17 (by decide) (fun c17 => ?_) (fun c17 => ?_)
    · have q17_0 := hI14_0.of (by omega)
      try simp only [he11.eq, he12.eq] at q17_0
      refine J_aload_n dX7_board_23 rfl ?_
      refine J_iload_n dX7_board_24 rfl ?_
      refine Jz_putI hO_a0 hW id rfl jf_X7_73 jt_X7_23 jEq.rf dX7_board_25 (by omega) (by omega) (fun _ _ => ⟨rfl, rfl⟩) (fun V25 fs25 hW hx25 hO25 hS25 hT25 hB25 => ?_)
      have hK25 : jokO _ (jFs 5) fs25 := hW _ _ id hO25
      have hF25_25 := (hT25 25 (by decide)).trans hF_rh
      have he := he.trans (hx25.sub (jsub_of rfl))
      have hkp := hkp.trans (jkc.put hO_a0 hO25 hT25 hB25 (by decide))
      have ha0 := ha0.mono hx25.1
      have hb_rh := hb_rh.mono hx25.1
      refine J_aload_n dX7_board_28 rfl ?_
      refine J_iload_n dX7_board_29 rfl ?_
      refine Jz_putI hO25 hW id rfl jf_X7_77 jt_X7_24 jEq.rf dX7_board_30 (by omega) (by omega) (fun _ _ => ⟨rfl, rfl⟩) (fun V30 fs30 hW hx30 hO30 hS30 hT30 hB30 => ?_)
      have hK30 : jokO _ (jFs 5) fs30 := hW _ _ id hO30
      have hF30_23 := (hT30 23 (by decide)).trans hS25
      have hF30_25 := (hT30 25 (by decide)).trans hF25_25
      have he := he.trans (hx30.sub (jsub_of rfl))
      have hkp := hkp.trans (jkc.put hO25 hO30 hT30 hB30 (by decide))
      have ha0 := ha0.mono hx30.1
      have hb_rh := hb_rh.mono hx30.1
      refine Jz_iconst 0 dX7_board_33 (by decide) (fun y33 he33 => ?_)
      refine J_istore_n dX7_board_34 rfl (by decide) ?_
      obtain ⟨n35trh, f35trh, hA35trh, hN35trh, hM35trh, hv35trh⟩ := WT_arrI (r := (0, 1)) hW id rfl hb_rh
      obtain rfl := hM35trh 36 rfl
      clear hN35trh hM35trh
      have L35 : ∀ (N : Nat) (V : jH) (i3n35 : Int32) (F43n35 : Nat → Int32), WT V → jeff [.inr 5, .inl 43] V0 V → (jis V (.inr 5) a0) → (jis V (.inl 43) rh) → (jkc 5 [0] V0 V) → (V a0 = some (.inr (5, fs30))) → (jokO V (jFs 5) fs30) → (V rh = some (.inl (43, 36, .inl F43n35))) → (0 ≤ i3n35.toInt) → (∀ j : Nat, (j : Int) < i3n35.toInt → (F43n35 j).toInt = 0) → (300 - i3n35.toInt).toNat < N → J tS mX7_board d 35 [some (.ref a0), some (.int x1), some (.int x2), some (.int i3n35)] [] V 0 0 (fun r V => (jPost [.inr 5, .inl 43] V0 (fun r _ => ∃ y : Int32, r = some (.int y) ∧ ((-2147483648) ≤ y.toInt) ∧ (y.toInt ≤ 2147483647) ∧ (y.toInt = 1))) r V ∧ (∃ G : Nat → Int32, V rh = some (.inl (43, 36, .inl G)) ∧ ∀ j : Nat, j < 36 → (G j).toInt = 0) ∧ jkc 5 [0] V0 V ∧ (∃ w2 : Int32, jfI V a0 5 23 w2 ∧ (w2.toInt = x1.toInt)) ∧ (∃ h2 : Int32, jfI V a0 5 24 h2 ∧ (h2.toInt = x2.toInt))) := by
        intro N
        induction N with
        | zero => intro V i3n35 F43n35 hW he ha0 hb_rh hkp hO30 hK30 hAF43n35 hi3 hz hm; exact absurd hm (Nat.not_lt_zero _)
        | succ N ih =>
          intro V i3n35 F43n35 hW he ha0 hb_rh hkp hO30 hK30 hAF43n35 hi3 hz hm
          have ih35 := ih
          have hri3 := j_rng i3n35
          obtain ⟨hNF43n35, hvF43n35⟩ := WT_rngI (r := (0, 1)) hW id rfl hAF43n35
          clear hNF43n35
          refine J_iload_n dX7_board_35 rfl ?_
          refine Jz_bipush 36 dX7_board_36 (by decide) (fun y36 he36 => ?_)
          refine Jz_icmp_ge (tgt := 54) jEq.rf he36 dX7_board_38 (by decide) (fun c38 => ?_) (fun c38 => ?_)
          · refine J_aload_n dX7_board_54 rfl ?_
            refine Jz_iconst 0 dX7_board_55 (by decide) (fun y55 he55 => ?_)
            refine Jz_putI hO30 hW id rfl jf_X7_214 jt_X7_26 he55 dX7_board_56 (by omega) (by omega) (fun _ h => ⟨nar_b (by omega) (by omega), fit_b (by omega) (by omega)⟩) (fun V56 fs56 hW hx56 hO56 hS56 hT56 hB56 => ?_)
            have hK56 : jokO _ (jFs 5) fs56 := hW _ _ id hO56
            have hF56_24 := (hT56 24 (by decide)).trans hS30
            have hF56_23 := (hT56 23 (by decide)).trans hF30_23
            have hF56_25 := (hT56 25 (by decide)).trans hF30_25
            have he := he.trans (hx56.sub (jsub_of rfl))
            have hkp := hkp.trans (jkc.put hO30 hO56 hT56 hB56 (by decide))
            have ha0 := ha0.mono hx56.1
            have hb_rh := hb_rh.mono hx56.1
            have hAF43n35 := hx56.2 _ _ hAF43n35 (jnot_of rfl)
            refine Jz_iconst 1 dX7_board_59 (by decide) (fun y59 he59 => ?_)
            exact J_ret (r := some (.int _)) dX7_board_60 ⟨rfl, _, rfl, rfl⟩ (⟨⟨hW, he, ⟨_, rfl, (j_rng _).1, (j_rng _).2, (by (try simp only [he59.eq, true_and, and_true]) <;> omega)⟩⟩, ⟨F43n35, hAF43n35, fun j hj => hz j (by omega)⟩, hkp, ⟨_, ⟨_, hO56, hF56_23⟩, (by omega)⟩, ⟨_, ⟨_, hO56, hF56_24⟩, (by omega)⟩⟩)
          · refine J_aload_n dX7_board_41 rfl ?_
            refine J_get jf_X7_80 dX7_board_42 hO30 hF30_25 ?_
            refine J_iload_n dX7_board_45 rfl ?_
            refine Jz_iconst 0 dX7_board_46 (by decide) (fun y46 he46 => ?_)
            refine Jz_zast (r := (0, 1)) jEq.rf he46 hW id dX7_board_47 hAF43n35 rfl rfl (by omega) (by omega) (by omega) (by omega) (fun _ h => vp_nar_b (by omega) (by omega)) (fun V47 G47 hW hx47 hA47 hp47 ho47 => ?_)
            obtain ⟨hN47, hv47⟩ := WT_rngI (r := (0, 1)) hW id rfl hA47
            clear hN47
            have he := he.trans (hx47.sub (jsub_of rfl))
            have hkp := hkp.trans (jkc.of hx47 (jnot_of rfl))
            have ha0 := ha0.mono hx47.1
            have hb_rh := hb_rh.mono hx47.1
            have hO30 := hx47.2 _ _ hO30 (jnot_of rfl)
            have hK30 := hK30.mono hx47.1
            refine Jz_iinc 1 dX7_board_48 rfl rfl (by decide) jEq.rf (by decide) (by omega) (by omega) (fun y48 he48 => ?_)
            refine J_goto (tgt := 35) dX7_board_51 (by decide) ?_
            refine J.mask [true, true, true, true] ?_
            exact ih35 _ y48 G47 hW he ha0 hb_rh hkp hO30 hK30 hA47 (by (try simp only [he48.eq, true_and, and_true]) <;> omega) (fun j hj => by rw [he48.eq] at hj; exact (Nat.decEq j i3n35.toInt.toNat).byCases (fun hq => by rw [hq, hp47, he46.eq]) (fun hq => by rw [ho47 j hq]; exact hz j (by omega))) (by (try simp only [he48.eq, true_and, and_true]) <;> omega)
      refine J.mask [true, true, true, true] ?_
      exact L35 _ _ y33 f35trh hW he ha0 hb_rh hkp hO30 hK30 hA35trh (by (try simp only [he33.eq, true_and, and_true]) <;> omega) (fun j hj => by rw [he33.eq] at hj; omega) (Nat.lt_succ_self _)
    · have q17_1 := hI14_1.of (by omega)
      try simp only [he11.eq, he12.eq] at q17_1
      exact False.elim (by omega)
set_option maxRecDepth 100000 in
set_option maxHeartbeats 8000000 in
theorem w_X7_open_z {tS : jTS} (d : Nat) (V0 : jH) (a0 : Nat) (wd : Int32) (hg : Int32) (rh : Nat) (H43 : Nat → Int32) (hd : 0 ≤ d) (hW : WT V0) (ha0 : jis V0 (.inr 5) a0) (hf_wd : jfI V0 a0 5 23 wd) (hf_hg : jfI V0 a0 5 24 hg) (hr_rh : jfR V0 a0 5 25 rh) (ha_H43 : V0 rh = some (.inl (43, 36, .inl H43))) (hp0 : 2 ≤ wd.toInt) (hp1 : wd.toInt ≤ 6) (hp2 : 2 ≤ hg.toInt) (hp3 : hg.toInt ≤ 6) : jTot tS mX7_open d [.ref a0] V0 0 0 (fun r V => (fun r _ => ∃ y : Int32, r = some (.int y) ∧ ((-2147483648) ≤ y.toInt) ∧ (y.toInt ≤ 2147483647) ∧ (y.toInt = ((jcn 1 H43 (wd.toInt * hg.toInt).toNat : Nat) : Int))) r V ∧ V = V0) := by
  refine jTot.of_J [some (.ref a0), none, none] moX7_open (Nat.le_of_ble_eq_true rfl) rfl ?_
  have he : jeff [] V0 V0 := jeff.refl _ _
  obtain ⟨fs_a0, hO_a0, hK_a0⟩ := WT_obj hW id ha0
  have hF_wd := hf_wd.get hO_a0
  have hrwd : 2 ≤ wd.toInt ∧ wd.toInt ≤ 6 := jok_rngI hK_a0 rfl hF_wd
  have hF_hg := hf_hg.get hO_a0
  have hrhg : 2 ≤ hg.toInt ∧ hg.toInt ≤ 6 := jok_rngI hK_a0 rfl hF_hg
  have hF_rh := hr_rh.get hO_a0
  obtain ⟨w_rh, hFq_rh, b_rh, hbq_rh, hb_rh⟩ := hK_a0.2 25 (.inr (some (.inl 43))) rfl
  cases hF_rh.symm.trans (hFq_rh.trans (congrArg some hbq_rh))
  obtain ⟨hN_H43, hv_H43⟩ := WT_rngI (r := (0, 1)) hW id rfl ha_H43
  clear hN_H43
  refine Jz_iconst 0 dX7_open_0 (by decide) (fun y0 he0 => ?_)
  refine J_istore_n dX7_open_1 rfl (by decide) ?_
  refine Jz_iconst 0 dX7_open_2 (by decide) (fun y2 he2 => ?_)
  refine J_istore_n dX7_open_3 rfl (by decide) ?_
  have L4 : ∀ (N : Nat) (i1n4 : Int32) (i2n4 : Int32), (0 ≤ i2n4.toInt ∧ i2n4.toInt ≤ wd.toInt * hg.toInt) → (i1n4.toInt = ((jcn 1 H43 i2n4.toInt.toNat : Nat) : Int)) → (300 - i2n4.toInt).toNat < N → J tS mX7_open d 4 [some (.ref a0), some (.int i1n4), some (.int i2n4)] [] V0 0 0 (fun r V => (fun r _ => ∃ y : Int32, r = some (.int y) ∧ ((-2147483648) ≤ y.toInt) ∧ (y.toInt ≤ 2147483647) ∧ (y.toInt = ((jcn 1 H43 (wd.toInt * hg.toInt).toNat : Nat) : Int))) r V ∧ V = V0) := by
    intro N
    induction N with
    | zero => intro i1n4 i2n4  hi2 hc hm; exact absurd hm (Nat.not_lt_zero _)
    | succ N ih =>
      intro i1n4 i2n4  hi2 hc hm
      have ih4 := ih
      have hri2 := j_rng i2n4
      have hm2 := Int.mul_nonneg (show 0 ≤ wd.toInt by omega) (show 0 ≤ hg.toInt by omega)
      have hm3 := Int.mul_le_mul_of_nonneg_left (show hg.toInt ≤ 6 by omega) (show 0 ≤ wd.toInt by omega)
      have hjl := jcn_le (c := 1) (F := H43) i2n4.toInt.toNat
      refine J_iload_n dX7_open_4 rfl ?_
      refine J_aload_n dX7_open_5 rfl ?_
      refine J_get jf_X7_73 dX7_open_6 hO_a0 hF_wd ?_
      refine J_aload_n dX7_open_9 rfl ?_
      refine J_get jf_X7_77 dX7_open_10 hO_a0 hF_hg ?_
      refine Jz_imul jEq.rf jEq.rf dX7_open_13 (by omega) (by omega) (fun y13 he13 => ?_)
      refine Jz_icmp_ge (tgt := 40) jEq.rf he13 dX7_open_14 (by decide) (fun c14 => ?_) (fun c14 => ?_)
      · refine J_iload_n dX7_open_40 rfl ?_
        exact J_ret (r := some (.int _)) dX7_open_41 ⟨rfl, _, rfl, rfl⟩ (⟨⟨_, rfl, (j_rng _).1, (j_rng _).2, (by rw [show wd.toInt * hg.toInt = i2n4.toInt by omega]; exact hc)⟩, rfl⟩)
      · refine J_iload_n dX7_open_17 rfl ?_
        refine J_aload_n dX7_open_18 rfl ?_
        refine J_get jf_X7_80 dX7_open_19 hO_a0 hF_rh ?_
        refine J_iload_n dX7_open_22 rfl ?_
        refine Jz_zald (r := (0, 1)) jEq.rf dX7_open_23 ha_H43 rfl hv_H43 (by omega) (by omega) (fun y23 hf23 hl23 hh23 => ?_)
        dsimp only at hl23 hh23
        refine Jz_if_eq (tgt := 31) jEq.rf dX7_open_24 (by decide) (fun c24 => ?_) (fun c24 => ?_)
        · refine Jz_iconst 1 dX7_open_31 (by decide) (fun y31 he31 => ?_)
          refine Jz_iadd jEq.rf he31 dX7_open_32 (by omega) (by omega) (fun y32 he32 => ?_)
          refine J_istore_n dX7_open_33 rfl (by decide) ?_
          refine Jz_iinc 1 dX7_open_34 rfl rfl (by decide) jEq.rf (by decide) (by omega) (by omega) (fun y34 he34 => ?_)
          refine J_goto (tgt := 4) dX7_open_37 (by decide) ?_
          refine J.mask [true, true, true] ?_
          exact ih4  y32 y34  (by (try simp only [he32.eq, he34.eq, true_and, and_true]) <;> omega) (by rw [he32.eq, he34.eq, show (i2n4.toInt + 1).toNat = i2n4.toInt.toNat + 1 by omega, show jcn 1 H43 (i2n4.toInt.toNat + 1) = jcn 1 H43 i2n4.toInt.toNat + (if (H43 i2n4.toInt.toNat).toInt = 1 then 0 else 1) from rfl, if_neg (by rw [hf23]; omega)]; omega) (by (try simp only [he32.eq, he34.eq, true_and, and_true]) <;> omega)
        · refine Jz_iconst 0 dX7_open_27 (by decide) (fun y27 he27 => ?_)
          refine J_goto (tgt := 32) dX7_open_28 (by decide) ?_
          refine Jz_iadd jEq.rf he27 dX7_open_32 (by omega) (by omega) (fun y32 he32 => ?_)
          refine J_istore_n dX7_open_33 rfl (by decide) ?_
          refine Jz_iinc 1 dX7_open_34 rfl rfl (by decide) jEq.rf (by decide) (by omega) (by omega) (fun y34 he34 => ?_)
          refine J_goto (tgt := 4) dX7_open_37 (by decide) ?_
          refine J.mask [true, true, true] ?_
          exact ih4  y32 y34  (by (try simp only [he32.eq, he34.eq, true_and, and_true]) <;> omega) (by rw [he32.eq, he34.eq, show (i2n4.toInt + 1).toNat = i2n4.toInt.toNat + 1 by omega, show jcn 1 H43 (i2n4.toInt.toNat + 1) = jcn 1 H43 i2n4.toInt.toNat + (if (H43 i2n4.toInt.toNat).toInt = 1 then 0 else 1) from rfl, if_pos (by rw [hf23]; omega)]; omega) (by (try simp only [he32.eq, he34.eq, true_and, and_true]) <;> omega)
  refine J.mask [true, true, true] ?_
  exact L4 _  y0 y2    (by rw [he2.eq]; have hm2 := Int.mul_nonneg (show 0 ≤ wd.toInt by omega) (show 0 ≤ hg.toInt by omega); omega) (by rw [he0.eq, he2.eq]; rfl) (Nat.lt_succ_self _)
set_option maxRecDepth 100000 in
set_option maxHeartbeats 8000000 in
theorem w_X7_count_z {tS : jTS} (d : Nat) (V0 : jH) (a0 : Nat) (x1 : Int32) (v0 : Int32) (wd : Int32) (hg : Int32) (rh : Nat) (H43 : Nat → Int32) (hd : 1 ≤ d) (hW : WT V0) (ha0 : jis V0 (.inr 5) a0) (hf_v0 : jfI V0 a0 5 0 v0) (hf_wd : jfI V0 a0 5 23 wd) (hf_hg : jfI V0 a0 5 24 hg) (hr_rh : jfR V0 a0 5 25 rh) (ha_H43 : V0 rh = some (.inl (43, 36, .inl H43))) (hp0 : 2 ≤ wd.toInt) (hp1 : wd.toInt ≤ 6) (hp2 : 2 ≤ hg.toInt) (hp3 : hg.toInt ≤ 6) : jTot tS mX7_count d [.ref a0, .int x1] V0 0 0 (fun r V => (fun r _ => ∃ y : Int32, r = some (.int y) ∧ ((-2147483648) ≤ y.toInt) ∧ (y.toInt ≤ 2147483647) ∧ ((x1.toInt = 0 ∧ y.toInt = v0.toInt) ∨ (x1.toInt = 1 ∧ y.toInt = ((jcn 1 H43 (wd.toInt * hg.toInt).toNat : Nat) : Int)) ∨ (x1.toInt = 2 ∧ y.toInt = wd.toInt) ∨ (x1.toInt = 3 ∧ y.toInt = hg.toInt) ∨ (¬ (0 ≤ x1.toInt ∧ x1.toInt ≤ 3) ∧ y.toInt = -2))) r V ∧ V = V0) := by
  refine jTot.of_J [some (.ref a0), some (.int x1)] moX7_count (Nat.le_of_ble_eq_true rfl) rfl ?_
  have hrx1 := j_rng x1
  have he : jeff [] V0 V0 := jeff.refl _ _
  obtain ⟨fs_a0, hO_a0, hK_a0⟩ := WT_obj hW id ha0
  have hF_v0 := hf_v0.get hO_a0
  have hrv0 : 0 ≤ v0.toInt ∧ v0.toInt ≤ 16 := jok_rngI hK_a0 rfl hF_v0
  have hF_wd := hf_wd.get hO_a0
  have hrwd : 2 ≤ wd.toInt ∧ wd.toInt ≤ 6 := jok_rngI hK_a0 rfl hF_wd
  have hF_hg := hf_hg.get hO_a0
  have hrhg : 2 ≤ hg.toInt ∧ hg.toInt ≤ 6 := jok_rngI hK_a0 rfl hF_hg
  have hF_rh := hr_rh.get hO_a0
  obtain ⟨w_rh, hFq_rh, b_rh, hbq_rh, hb_rh⟩ := hK_a0.2 25 (.inr (some (.inl 43))) rfl
  cases hF_rh.symm.trans (hFq_rh.trans (congrArg some hbq_rh))
  obtain ⟨hN_H43, hv_H43⟩ := WT_rngI (r := (0, 1)) hW id rfl ha_H43
  clear hN_H43
  refine J_iload_n dX7_count_0 rfl ?_
  refine Jz_if_ne (tgt := 11) jEq.rf dX7_count_1 (by decide) (fun c1 => ?_) (fun c1 => ?_)
  · refine J_iload_n dX7_count_11 rfl ?_
    refine Jz_iconst 1 dX7_count_12 (by decide) (fun y12 he12 => ?_)
    refine Jz_icmp_ne (tgt := 23) jEq.rf he12 dX7_count_13 (by decide) (fun c13 => ?_) (fun c13 => ?_)
    · refine J_iload_n dX7_count_23 rfl ?_
      refine Jz_iconst 2 dX7_count_24 (by decide) (fun y24 he24 => ?_)
      refine Jz_icmp_ne (tgt := 35) jEq.rf he24 dX7_count_25 (by decide) (fun c25 => ?_) (fun c25 => ?_)
      · refine J_iload_n dX7_count_35 rfl ?_
        refine Jz_iconst 3 dX7_count_36 (by decide) (fun y36 he36 => ?_)
        refine Jz_icmp_ne (tgt := 47) jEq.rf he36 dX7_count_37 (by decide) (fun c37 => ?_) (fun c37 => ?_)
        · refine Jz_bipush (-2) dX7_count_47 (by decide) (fun y47 he47 => ?_)
          exact J_ret (r := some (.int _)) dX7_count_49 ⟨rfl, _, rfl, rfl⟩ (⟨⟨_, rfl, (j_rng _).1, (j_rng _).2, (by (try simp only [he47.eq, true_and, and_true]) <;> omega)⟩, rfl⟩)
        · refine J_aload_n dX7_count_40 rfl ?_
          refine J_get jf_X7_77 dX7_count_41 hO_a0 hF_hg ?_
          refine J_goto (tgt := 49) dX7_count_44 (by decide) ?_
          exact J_ret (r := some (.int _)) dX7_count_49 ⟨rfl, _, rfl, rfl⟩ (⟨⟨_, rfl, (j_rng _).1, (j_rng _).2, (by omega)⟩, rfl⟩)
      · refine J_aload_n dX7_count_28 rfl ?_
        refine J_get jf_X7_73 dX7_count_29 hO_a0 hF_wd ?_
        refine J_goto (tgt := 49) dX7_count_32 (by decide) ?_
        exact J_ret (r := some (.int _)) dX7_count_49 ⟨rfl, _, rfl, rfl⟩ (⟨⟨_, rfl, (j_rng _).1, (j_rng _).2, (by omega)⟩, rfl⟩)
    · refine J_aload_n dX7_count_16 rfl ?_
      refine Jw_callV0 (q9 := (RX7, TX7, 34)) moX7_open jw_ml_X7_224 jw_im_X7_open jw_se_X7_open ha0 rfl rfl dX7_count_17 (w_X7_open_z (d - 1) _ a0 wd hg rh H43 (by omega) hW  ha0 ⟨_, hO_a0, hF_wd⟩ ⟨_, hO_a0, hF_hg⟩ ⟨_, hO_a0, hF_rh⟩ ha_H43 (by omega) (by omega) (by omega) (by omega)) (by omega) (Nat.zero_le _) (Nat.zero_le _) (Nat.le_of_ble_eq_true rfl) (fun r17 V17 h17 => ?_)
      obtain ⟨⟨y17, rfl, hl17, hh17, hP17_0⟩, hE17⟩ := h17
      have hE17 := hE17.symm
      subst hE17
      clear hl17 hh17
      refine J_goto (tgt := 49) dX7_count_20 (by decide) ?_
      exact J_ret (r := some (.int _)) dX7_count_49 ⟨rfl, _, rfl, rfl⟩ (⟨⟨_, rfl, (j_rng _).1, (j_rng _).2, (by omega)⟩, rfl⟩)
  · refine J_aload_n dX7_count_4 rfl ?_
    refine J_get jf_X7_102 dX7_count_5 hO_a0 hF_v0 ?_
    refine J_goto (tgt := 49) dX7_count_8 (by decide) ?_
    exact J_ret (r := some (.int _)) dX7_count_49 ⟨rfl, _, rfl, rfl⟩ (⟨⟨_, rfl, (j_rng _).1, (j_rng _).2, (by omega)⟩, rfl⟩)
set_option maxRecDepth 100000 in
set_option maxHeartbeats 8000000 in
theorem w_X7_stepX_z {tS : jTS} (d : Nat) (V0 : jH) (x0 : Int32) (x1 : Int32) (hd : 0 ≤ d)  (hp0 : 0 ≤ x0.toInt) (hp1 : x0.toInt ≤ 3) : jTot tS mX7_stepX d [.int x0, .int x1] V0 0 0 (fun r V => (fun r _ => ∃ y : Int32, r = some (.int y) ∧ ((-1) ≤ y.toInt) ∧ (y.toInt ≤ 1) ∧ (y.toInt = jsx x0.toInt x1.toInt)) r V ∧ V = V0) := by
  refine jTot.of_J [some (.int x0), some (.int x1)] moX7_stepX (Nat.le_of_ble_eq_true rfl) rfl ?_
  have hrx0 := j_rng x0
  have hrx1 := j_rng x1
  refine J_iload_n dX7_stepX_0 rfl ?_
  rcases jsw2 x0 with hx1 | hx1 | hx1 | hx1 | hx1
  · have hx1t : x0.toInt = 0 := by rw [hx1]; rfl
    clear hx1
    refine J_tableIn (tgt := 28) dX7_stepX_1 (by omega) (by omega) (by rw [hx1t]; rfl) (by decide) ?_
    refine J_iload_n dX7_stepX_28 rfl ?_
    refine Jz_if_ne (tgt := 36) jEq.rf dX7_stepX_29 (by decide) (fun c29 => ?_) (fun c29 => ?_)
    · refine J_iload_n dX7_stepX_36 rfl ?_
      refine Jz_iconst 2 dX7_stepX_37 (by decide) (fun y37 he37 => ?_)
      refine Jz_icmp_ne (tgt := 45) jEq.rf he37 dX7_stepX_38 (by decide) (fun c38 => ?_) (fun c38 => ?_)
      · refine Jz_iconst 0 dX7_stepX_45 (by decide) (fun y45 he45 => ?_)
        exact J_ret (r := some (.int _)) dX7_stepX_46 ⟨rfl, _, rfl, rfl⟩ (⟨⟨_, rfl, (by (try simp only [he45.eq, true_and, and_true]) <;> omega), (by (try simp only [he45.eq, true_and, and_true]) <;> omega), (by first | ((try simp only [he45.eq, true_and, and_true]) <;> omega) | ((try simp only [he45.eq]); unfold jsx; (repeat' split) <;> omega))⟩, rfl⟩)
      · refine Jz_iconst (-1) dX7_stepX_41 (by decide) (fun y41 he41 => ?_)
        refine J_goto (tgt := 46) dX7_stepX_42 (by decide) ?_
        exact J_ret (r := some (.int _)) dX7_stepX_46 ⟨rfl, _, rfl, rfl⟩ (⟨⟨_, rfl, (by (try simp only [he41.eq, true_and, and_true]) <;> omega), (by (try simp only [he41.eq, true_and, and_true]) <;> omega), (by first | ((try simp only [he41.eq, true_and, and_true]) <;> omega) | ((try simp only [he41.eq]); unfold jsx; (repeat' split) <;> omega))⟩, rfl⟩)
    · refine Jz_iconst 1 dX7_stepX_32 (by decide) (fun y32 he32 => ?_)
      refine J_goto (tgt := 46) dX7_stepX_33 (by decide) ?_
      exact J_ret (r := some (.int _)) dX7_stepX_46 ⟨rfl, _, rfl, rfl⟩ (⟨⟨_, rfl, (by (try simp only [he32.eq, true_and, and_true]) <;> omega), (by (try simp only [he32.eq, true_and, and_true]) <;> omega), (by first | ((try simp only [he32.eq, true_and, and_true]) <;> omega) | ((try simp only [he32.eq]); unfold jsx; (repeat' split) <;> omega))⟩, rfl⟩)
  · have hx1t : x0.toInt = 1 := by rw [hx1]; rfl
    clear hx1
    refine J_tableIn (tgt := 47) dX7_stepX_1 (by omega) (by omega) (by rw [hx1t]; rfl) (by decide) ?_
    refine J_iload_n dX7_stepX_47 rfl ?_
    refine Jz_if_eq (tgt := 56) jEq.rf dX7_stepX_48 (by decide) (fun c48 => ?_) (fun c48 => ?_)
    · refine Jz_iconst 1 dX7_stepX_56 (by decide) (fun y56 he56 => ?_)
      refine J_goto (tgt := 75) dX7_stepX_57 (by decide) ?_
      exact J_ret (r := some (.int _)) dX7_stepX_75 ⟨rfl, _, rfl, rfl⟩ (⟨⟨_, rfl, (by (try simp only [he56.eq, true_and, and_true]) <;> omega), (by (try simp only [he56.eq, true_and, and_true]) <;> omega), (by first | ((try simp only [he56.eq, true_and, and_true]) <;> omega) | ((try simp only [he56.eq]); unfold jsx; (repeat' split) <;> omega))⟩, rfl⟩)
    · refine J_iload_n dX7_stepX_51 rfl ?_
      refine Jz_iconst 5 dX7_stepX_52 (by decide) (fun y52 he52 => ?_)
      refine Jz_icmp_ne (tgt := 60) jEq.rf he52 dX7_stepX_53 (by decide) (fun c53 => ?_) (fun c53 => ?_)
      · refine J_iload_n dX7_stepX_60 rfl ?_
        refine Jz_iconst 2 dX7_stepX_61 (by decide) (fun y61 he61 => ?_)
        refine Jz_icmp_eq (tgt := 70) jEq.rf he61 dX7_stepX_62 (by decide) (fun c62 => ?_) (fun c62 => ?_)
        · refine Jz_iconst (-1) dX7_stepX_70 (by decide) (fun y70 he70 => ?_)
          refine J_goto (tgt := 75) dX7_stepX_71 (by decide) ?_
          exact J_ret (r := some (.int _)) dX7_stepX_75 ⟨rfl, _, rfl, rfl⟩ (⟨⟨_, rfl, (by (try simp only [he70.eq, true_and, and_true]) <;> omega), (by (try simp only [he70.eq, true_and, and_true]) <;> omega), (by first | ((try simp only [he70.eq, true_and, and_true]) <;> omega) | ((try simp only [he70.eq]); unfold jsx; (repeat' split) <;> omega))⟩, rfl⟩)
        · refine J_iload_n dX7_stepX_65 rfl ?_
          refine Jz_iconst 3 dX7_stepX_66 (by decide) (fun y66 he66 => ?_)
          refine Jz_icmp_ne (tgt := 74) jEq.rf he66 dX7_stepX_67 (by decide) (fun c67 => ?_) (fun c67 => ?_)
          · refine Jz_iconst 0 dX7_stepX_74 (by decide) (fun y74 he74 => ?_)
            exact J_ret (r := some (.int _)) dX7_stepX_75 ⟨rfl, _, rfl, rfl⟩ (⟨⟨_, rfl, (by (try simp only [he74.eq, true_and, and_true]) <;> omega), (by (try simp only [he74.eq, true_and, and_true]) <;> omega), (by first | ((try simp only [he74.eq, true_and, and_true]) <;> omega) | ((try simp only [he74.eq]); unfold jsx; (repeat' split) <;> omega))⟩, rfl⟩)
          · refine Jz_iconst (-1) dX7_stepX_70 (by decide) (fun y70 he70 => ?_)
            refine J_goto (tgt := 75) dX7_stepX_71 (by decide) ?_
            exact J_ret (r := some (.int _)) dX7_stepX_75 ⟨rfl, _, rfl, rfl⟩ (⟨⟨_, rfl, (by (try simp only [he70.eq, true_and, and_true]) <;> omega), (by (try simp only [he70.eq, true_and, and_true]) <;> omega), (by first | ((try simp only [he70.eq, true_and, and_true]) <;> omega) | ((try simp only [he70.eq]); unfold jsx; (repeat' split) <;> omega))⟩, rfl⟩)
      · refine Jz_iconst 1 dX7_stepX_56 (by decide) (fun y56 he56 => ?_)
        refine J_goto (tgt := 75) dX7_stepX_57 (by decide) ?_
        exact J_ret (r := some (.int _)) dX7_stepX_75 ⟨rfl, _, rfl, rfl⟩ (⟨⟨_, rfl, (by (try simp only [he56.eq, true_and, and_true]) <;> omega), (by (try simp only [he56.eq, true_and, and_true]) <;> omega), (by first | ((try simp only [he56.eq, true_and, and_true]) <;> omega) | ((try simp only [he56.eq]); unfold jsx; (repeat' split) <;> omega))⟩, rfl⟩)
  · have hx1t : x0.toInt = 2 := by rw [hx1]; rfl
    clear hx1
    refine J_tableIn (tgt := 76) dX7_stepX_1 (by omega) (by omega) (by rw [hx1t]; rfl) (by decide) ?_
    refine J_iload_n dX7_stepX_76 rfl ?_
    refine Jz_if_ne (tgt := 84) jEq.rf dX7_stepX_77 (by decide) (fun c77 => ?_) (fun c77 => ?_)
    · refine J_iload_n dX7_stepX_84 rfl ?_
      refine Jz_iconst 1 dX7_stepX_85 (by decide) (fun y85 he85 => ?_)
      refine Jz_icmp_ne (tgt := 93) jEq.rf he85 dX7_stepX_86 (by decide) (fun c86 => ?_) (fun c86 => ?_)
      · refine Jz_iconst 0 dX7_stepX_93 (by decide) (fun y93 he93 => ?_)
        exact J_ret (r := some (.int _)) dX7_stepX_94 ⟨rfl, _, rfl, rfl⟩ (⟨⟨_, rfl, (by (try simp only [he93.eq, true_and, and_true]) <;> omega), (by (try simp only [he93.eq, true_and, and_true]) <;> omega), (by first | ((try simp only [he93.eq, true_and, and_true]) <;> omega) | ((try simp only [he93.eq]); unfold jsx; (repeat' split) <;> omega))⟩, rfl⟩)
      · refine Jz_iconst (-1) dX7_stepX_89 (by decide) (fun y89 he89 => ?_)
        refine J_goto (tgt := 94) dX7_stepX_90 (by decide) ?_
        exact J_ret (r := some (.int _)) dX7_stepX_94 ⟨rfl, _, rfl, rfl⟩ (⟨⟨_, rfl, (by (try simp only [he89.eq, true_and, and_true]) <;> omega), (by (try simp only [he89.eq, true_and, and_true]) <;> omega), (by first | ((try simp only [he89.eq, true_and, and_true]) <;> omega) | ((try simp only [he89.eq]); unfold jsx; (repeat' split) <;> omega))⟩, rfl⟩)
    · refine Jz_iconst 1 dX7_stepX_80 (by decide) (fun y80 he80 => ?_)
      refine J_goto (tgt := 94) dX7_stepX_81 (by decide) ?_
      exact J_ret (r := some (.int _)) dX7_stepX_94 ⟨rfl, _, rfl, rfl⟩ (⟨⟨_, rfl, (by (try simp only [he80.eq, true_and, and_true]) <;> omega), (by (try simp only [he80.eq, true_and, and_true]) <;> omega), (by first | ((try simp only [he80.eq, true_and, and_true]) <;> omega) | ((try simp only [he80.eq]); unfold jsx; (repeat' split) <;> omega))⟩, rfl⟩)
  · refine J_tableOut (tgt := 95) dX7_stepX_1 (Or.inl hx1) (by decide) ?_
    refine J_iload_n dX7_stepX_95 rfl ?_
    refine Jz_if_ne (tgt := 103) jEq.rf dX7_stepX_96 (by decide) (fun c96 => ?_) (fun c96 => ?_)
    · refine J_iload_n dX7_stepX_103 rfl ?_
      refine Jz_iconst 3 dX7_stepX_104 (by decide) (fun y104 he104 => ?_)
      refine Jz_icmp_ne (tgt := 112) jEq.rf he104 dX7_stepX_105 (by decide) (fun c105 => ?_) (fun c105 => ?_)
      · refine Jz_iconst 0 dX7_stepX_112 (by decide) (fun y112 he112 => ?_)
        exact J_ret (r := some (.int _)) dX7_stepX_113 ⟨rfl, _, rfl, rfl⟩ (⟨⟨_, rfl, (by (try simp only [he112.eq, true_and, and_true]) <;> omega), (by (try simp only [he112.eq, true_and, and_true]) <;> omega), (by first | ((try simp only [he112.eq, true_and, and_true]) <;> omega) | ((try simp only [he112.eq]); unfold jsx; (repeat' split) <;> omega))⟩, rfl⟩)
      · refine Jz_iconst (-1) dX7_stepX_108 (by decide) (fun y108 he108 => ?_)
        refine J_goto (tgt := 113) dX7_stepX_109 (by decide) ?_
        exact J_ret (r := some (.int _)) dX7_stepX_113 ⟨rfl, _, rfl, rfl⟩ (⟨⟨_, rfl, (by (try simp only [he108.eq, true_and, and_true]) <;> omega), (by (try simp only [he108.eq, true_and, and_true]) <;> omega), (by first | ((try simp only [he108.eq, true_and, and_true]) <;> omega) | ((try simp only [he108.eq]); unfold jsx; (repeat' split) <;> omega))⟩, rfl⟩)
    · refine Jz_iconst 1 dX7_stepX_99 (by decide) (fun y99 he99 => ?_)
      refine J_goto (tgt := 113) dX7_stepX_100 (by decide) ?_
      exact J_ret (r := some (.int _)) dX7_stepX_113 ⟨rfl, _, rfl, rfl⟩ (⟨⟨_, rfl, (by (try simp only [he99.eq, true_and, and_true]) <;> omega), (by (try simp only [he99.eq, true_and, and_true]) <;> omega), (by first | ((try simp only [he99.eq, true_and, and_true]) <;> omega) | ((try simp only [he99.eq]); unfold jsx; (repeat' split) <;> omega))⟩, rfl⟩)
  · refine J_tableOut (tgt := 95) dX7_stepX_1 (Or.inr hx1) (by decide) ?_
    refine J_iload_n dX7_stepX_95 rfl ?_
    refine Jz_if_ne (tgt := 103) jEq.rf dX7_stepX_96 (by decide) (fun c96 => ?_) (fun c96 => ?_)
    · refine J_iload_n dX7_stepX_103 rfl ?_
      refine Jz_iconst 3 dX7_stepX_104 (by decide) (fun y104 he104 => ?_)
      refine Jz_icmp_ne (tgt := 112) jEq.rf he104 dX7_stepX_105 (by decide) (fun c105 => ?_) (fun c105 => ?_)
      · refine Jz_iconst 0 dX7_stepX_112 (by decide) (fun y112 he112 => ?_)
        exact J_ret (r := some (.int _)) dX7_stepX_113 ⟨rfl, _, rfl, rfl⟩ (⟨⟨_, rfl, (by (try simp only [he112.eq, true_and, and_true]) <;> omega), (by (try simp only [he112.eq, true_and, and_true]) <;> omega), (by first | ((try simp only [he112.eq, true_and, and_true]) <;> omega) | ((try simp only [he112.eq]); unfold jsx; (repeat' split) <;> omega))⟩, rfl⟩)
      · refine Jz_iconst (-1) dX7_stepX_108 (by decide) (fun y108 he108 => ?_)
        refine J_goto (tgt := 113) dX7_stepX_109 (by decide) ?_
        exact J_ret (r := some (.int _)) dX7_stepX_113 ⟨rfl, _, rfl, rfl⟩ (⟨⟨_, rfl, (by (try simp only [he108.eq, true_and, and_true]) <;> omega), (by (try simp only [he108.eq, true_and, and_true]) <;> omega), (by first | ((try simp only [he108.eq, true_and, and_true]) <;> omega) | ((try simp only [he108.eq]); unfold jsx; (repeat' split) <;> omega))⟩, rfl⟩)
    · refine Jz_iconst 1 dX7_stepX_99 (by decide) (fun y99 he99 => ?_)
      refine J_goto (tgt := 113) dX7_stepX_100 (by decide) ?_
      exact J_ret (r := some (.int _)) dX7_stepX_113 ⟨rfl, _, rfl, rfl⟩ (⟨⟨_, rfl, (by (try simp only [he99.eq, true_and, and_true]) <;> omega), (by (try simp only [he99.eq, true_and, and_true]) <;> omega), (by first | ((try simp only [he99.eq, true_and, and_true]) <;> omega) | ((try simp only [he99.eq]); unfold jsx; (repeat' split) <;> omega))⟩, rfl⟩)
set_option maxRecDepth 100000 in
set_option maxHeartbeats 8000000 in
theorem w_X7_stepY_z {tS : jTS} (d : Nat) (V0 : jH) (x0 : Int32) (x1 : Int32) (x2 : Int32) (hd : 0 ≤ d)  (hp0 : 0 ≤ x0.toInt) (hp1 : x0.toInt ≤ 3) : jTot tS mX7_stepY d [.int x0, .int x1, .int x2] V0 0 0 (fun r V => (fun r _ => ∃ y : Int32, r = some (.int y) ∧ ((-1) ≤ y.toInt) ∧ (y.toInt ≤ 1) ∧ (y.toInt = jsy x0.toInt x1.toInt x2.toInt)) r V ∧ V = V0) := by
  refine jTot.of_J [some (.int x0), some (.int x1), some (.int x2)] moX7_stepY (Nat.le_of_ble_eq_true rfl) rfl ?_
  have hrx0 := j_rng x0
  have hrx1 := j_rng x1
  have hrx2 := j_rng x2
  refine J_iload_n dX7_stepY_0 rfl ?_
  rcases jsw2 x0 with hx1 | hx1 | hx1 | hx1 | hx1
  · have hx1t : x0.toInt = 0 := by rw [hx1]; rfl
    clear hx1
    refine J_tableIn (tgt := 28) dX7_stepY_1 (by omega) (by omega) (by rw [hx1t]; rfl) (by decide) ?_
    refine J_iload_n dX7_stepY_28 rfl ?_
    refine Jz_iconst 1 dX7_stepY_29 (by decide) (fun y29 he29 => ?_)
    refine Jz_icmp_ne (tgt := 37) jEq.rf he29 dX7_stepY_30 (by decide) (fun c30 => ?_) (fun c30 => ?_)
    · refine J_iload_n dX7_stepY_37 rfl ?_
      refine Jz_iconst 3 dX7_stepY_38 (by decide) (fun y38 he38 => ?_)
      refine Jz_icmp_ne (tgt := 46) jEq.rf he38 dX7_stepY_39 (by decide) (fun c39 => ?_) (fun c39 => ?_)
      · refine Jz_iconst 0 dX7_stepY_46 (by decide) (fun y46 he46 => ?_)
        exact J_ret (r := some (.int _)) dX7_stepY_47 ⟨rfl, _, rfl, rfl⟩ (⟨⟨_, rfl, (by (try simp only [he46.eq, true_and, and_true]) <;> omega), (by (try simp only [he46.eq, true_and, and_true]) <;> omega), (by first | ((try simp only [he46.eq, true_and, and_true]) <;> omega) | ((try simp only [he46.eq]); unfold jsy; (repeat' split) <;> omega))⟩, rfl⟩)
      · refine Jz_iconst (-1) dX7_stepY_42 (by decide) (fun y42 he42 => ?_)
        refine J_goto (tgt := 47) dX7_stepY_43 (by decide) ?_
        exact J_ret (r := some (.int _)) dX7_stepY_47 ⟨rfl, _, rfl, rfl⟩ (⟨⟨_, rfl, (by (try simp only [he42.eq, true_and, and_true]) <;> omega), (by (try simp only [he42.eq, true_and, and_true]) <;> omega), (by first | ((try simp only [he42.eq, true_and, and_true]) <;> omega) | ((try simp only [he42.eq]); unfold jsy; (repeat' split) <;> omega))⟩, rfl⟩)
    · refine Jz_iconst 1 dX7_stepY_33 (by decide) (fun y33 he33 => ?_)
      refine J_goto (tgt := 47) dX7_stepY_34 (by decide) ?_
      exact J_ret (r := some (.int _)) dX7_stepY_47 ⟨rfl, _, rfl, rfl⟩ (⟨⟨_, rfl, (by (try simp only [he33.eq, true_and, and_true]) <;> omega), (by (try simp only [he33.eq, true_and, and_true]) <;> omega), (by first | ((try simp only [he33.eq, true_and, and_true]) <;> omega) | ((try simp only [he33.eq]); unfold jsy; (repeat' split) <;> omega))⟩, rfl⟩)
  · have hx1t : x0.toInt = 1 := by rw [hx1]; rfl
    clear hx1
    refine J_tableIn (tgt := 48) dX7_stepY_1 (by omega) (by omega) (by rw [hx1t]; rfl) (by decide) ?_
    refine J_iload_n dX7_stepY_48 rfl ?_
    refine Jz_iconst 1 dX7_stepY_49 (by decide) (fun y49 he49 => ?_)
    refine Jz_icmp_eq (tgt := 58) jEq.rf he49 dX7_stepY_50 (by decide) (fun c50 => ?_) (fun c50 => ?_)
    · refine Jz_iconst 1 dX7_stepY_58 (by decide) (fun y58 he58 => ?_)
      refine J_goto (tgt := 77) dX7_stepY_59 (by decide) ?_
      exact J_ret (r := some (.int _)) dX7_stepY_77 ⟨rfl, _, rfl, rfl⟩ (⟨⟨_, rfl, (by (try simp only [he58.eq, true_and, and_true]) <;> omega), (by (try simp only [he58.eq, true_and, and_true]) <;> omega), (by first | ((try simp only [he58.eq, true_and, and_true]) <;> omega) | ((try simp only [he58.eq]); unfold jsy; (repeat' split) <;> omega))⟩, rfl⟩)
    · refine J_iload_n dX7_stepY_53 rfl ?_
      refine Jz_iconst 2 dX7_stepY_54 (by decide) (fun y54 he54 => ?_)
      refine Jz_icmp_ne (tgt := 62) jEq.rf he54 dX7_stepY_55 (by decide) (fun c55 => ?_) (fun c55 => ?_)
      · refine J_iload_n dX7_stepY_62 rfl ?_
        refine Jz_iconst 4 dX7_stepY_63 (by decide) (fun y63 he63 => ?_)
        refine Jz_icmp_eq (tgt := 72) jEq.rf he63 dX7_stepY_64 (by decide) (fun c64 => ?_) (fun c64 => ?_)
        · refine Jz_iconst (-1) dX7_stepY_72 (by decide) (fun y72 he72 => ?_)
          refine J_goto (tgt := 77) dX7_stepY_73 (by decide) ?_
          exact J_ret (r := some (.int _)) dX7_stepY_77 ⟨rfl, _, rfl, rfl⟩ (⟨⟨_, rfl, (by (try simp only [he72.eq, true_and, and_true]) <;> omega), (by (try simp only [he72.eq, true_and, and_true]) <;> omega), (by first | ((try simp only [he72.eq, true_and, and_true]) <;> omega) | ((try simp only [he72.eq]); unfold jsy; (repeat' split) <;> omega))⟩, rfl⟩)
        · refine J_iload_n dX7_stepY_67 rfl ?_
          refine Jz_iconst 5 dX7_stepY_68 (by decide) (fun y68 he68 => ?_)
          refine Jz_icmp_ne (tgt := 76) jEq.rf he68 dX7_stepY_69 (by decide) (fun c69 => ?_) (fun c69 => ?_)
          · refine Jz_iconst 0 dX7_stepY_76 (by decide) (fun y76 he76 => ?_)
            exact J_ret (r := some (.int _)) dX7_stepY_77 ⟨rfl, _, rfl, rfl⟩ (⟨⟨_, rfl, (by (try simp only [he76.eq, true_and, and_true]) <;> omega), (by (try simp only [he76.eq, true_and, and_true]) <;> omega), (by first | ((try simp only [he76.eq, true_and, and_true]) <;> omega) | ((try simp only [he76.eq]); unfold jsy; (repeat' split) <;> omega))⟩, rfl⟩)
          · refine Jz_iconst (-1) dX7_stepY_72 (by decide) (fun y72 he72 => ?_)
            refine J_goto (tgt := 77) dX7_stepY_73 (by decide) ?_
            exact J_ret (r := some (.int _)) dX7_stepY_77 ⟨rfl, _, rfl, rfl⟩ (⟨⟨_, rfl, (by (try simp only [he72.eq, true_and, and_true]) <;> omega), (by (try simp only [he72.eq, true_and, and_true]) <;> omega), (by first | ((try simp only [he72.eq, true_and, and_true]) <;> omega) | ((try simp only [he72.eq]); unfold jsy; (repeat' split) <;> omega))⟩, rfl⟩)
      · refine Jz_iconst 1 dX7_stepY_58 (by decide) (fun y58 he58 => ?_)
        refine J_goto (tgt := 77) dX7_stepY_59 (by decide) ?_
        exact J_ret (r := some (.int _)) dX7_stepY_77 ⟨rfl, _, rfl, rfl⟩ (⟨⟨_, rfl, (by (try simp only [he58.eq, true_and, and_true]) <;> omega), (by (try simp only [he58.eq, true_and, and_true]) <;> omega), (by first | ((try simp only [he58.eq, true_and, and_true]) <;> omega) | ((try simp only [he58.eq]); unfold jsy; (repeat' split) <;> omega))⟩, rfl⟩)
  · have hx1t : x0.toInt = 2 := by rw [hx1]; rfl
    clear hx1
    refine J_tableIn (tgt := 78) dX7_stepY_1 (by omega) (by omega) (by rw [hx1t]; rfl) (by decide) ?_
    refine J_iload_n dX7_stepY_78 rfl ?_
    refine Jz_iconst 2 dX7_stepY_79 (by decide) (fun y79 he79 => ?_)
    refine Jz_icmp_ge (tgt := 87) jEq.rf he79 dX7_stepY_80 (by decide) (fun c80 => ?_) (fun c80 => ?_)
    · refine J_iload_n dX7_stepY_87 rfl ?_
      refine Jz_iconst 1 dX7_stepY_88 (by decide) (fun y88 he88 => ?_)
      refine J_iand dX7_stepY_89 ?_
      have hz89 : jEq (x2 &&& y88).toInt ((x2.toInt) % 2) := by rw [show y88 = 1 from jI_inj.mp he88.eq, jand1 x2]; rfl
      generalize x2 &&& y88 = y89 at hz89 ⊢
      refine Jz_if_ne (tgt := 97) hz89 dX7_stepY_90 (by decide) (fun c90 => ?_) (fun c90 => ?_)
      · refine Jz_iconst (-1) dX7_stepY_97 (by decide) (fun y97 he97 => ?_)
        exact J_ret (r := some (.int _)) dX7_stepY_98 ⟨rfl, _, rfl, rfl⟩ (⟨⟨_, rfl, (by (try simp only [he97.eq, true_and, and_true]) <;> omega), (by (try simp only [he97.eq, true_and, and_true]) <;> omega), (by first | ((try simp only [he97.eq, true_and, and_true]) <;> omega) | ((try simp only [he97.eq]); unfold jsy; (repeat' split) <;> omega))⟩, rfl⟩)
      · refine Jz_iconst 1 dX7_stepY_93 (by decide) (fun y93 he93 => ?_)
        refine J_goto (tgt := 98) dX7_stepY_94 (by decide) ?_
        exact J_ret (r := some (.int _)) dX7_stepY_98 ⟨rfl, _, rfl, rfl⟩ (⟨⟨_, rfl, (by (try simp only [he93.eq, true_and, and_true]) <;> omega), (by (try simp only [he93.eq, true_and, and_true]) <;> omega), (by first | ((try simp only [he93.eq, true_and, and_true]) <;> omega) | ((try simp only [he93.eq]); unfold jsy; (repeat' split) <;> omega))⟩, rfl⟩)
    · refine Jz_iconst 0 dX7_stepY_83 (by decide) (fun y83 he83 => ?_)
      refine J_goto (tgt := 98) dX7_stepY_84 (by decide) ?_
      exact J_ret (r := some (.int _)) dX7_stepY_98 ⟨rfl, _, rfl, rfl⟩ (⟨⟨_, rfl, (by (try simp only [he83.eq, true_and, and_true]) <;> omega), (by (try simp only [he83.eq, true_and, and_true]) <;> omega), (by first | ((try simp only [he83.eq, true_and, and_true]) <;> omega) | ((try simp only [he83.eq]); unfold jsy; (repeat' split) <;> omega))⟩, rfl⟩)
  · refine J_tableOut (tgt := 99) dX7_stepY_1 (Or.inl hx1) (by decide) ?_
    refine J_iload_n dX7_stepY_99 rfl ?_
    refine Jz_iconst 1 dX7_stepY_100 (by decide) (fun y100 he100 => ?_)
    refine Jz_icmp_ne (tgt := 108) jEq.rf he100 dX7_stepY_101 (by decide) (fun c101 => ?_) (fun c101 => ?_)
    · refine J_iload_n dX7_stepY_108 rfl ?_
      refine Jz_iconst 4 dX7_stepY_109 (by decide) (fun y109 he109 => ?_)
      refine Jz_icmp_ne (tgt := 117) jEq.rf he109 dX7_stepY_110 (by decide) (fun c110 => ?_) (fun c110 => ?_)
      · refine Jz_iconst 0 dX7_stepY_117 (by decide) (fun y117 he117 => ?_)
        exact J_ret (r := some (.int _)) dX7_stepY_118 ⟨rfl, _, rfl, rfl⟩ (⟨⟨_, rfl, (by (try simp only [he117.eq, true_and, and_true]) <;> omega), (by (try simp only [he117.eq, true_and, and_true]) <;> omega), (by first | ((try simp only [he117.eq, true_and, and_true]) <;> omega) | ((try simp only [he117.eq]); unfold jsy; (repeat' split) <;> omega))⟩, rfl⟩)
      · refine Jz_iconst (-1) dX7_stepY_113 (by decide) (fun y113 he113 => ?_)
        refine J_goto (tgt := 118) dX7_stepY_114 (by decide) ?_
        exact J_ret (r := some (.int _)) dX7_stepY_118 ⟨rfl, _, rfl, rfl⟩ (⟨⟨_, rfl, (by (try simp only [he113.eq, true_and, and_true]) <;> omega), (by (try simp only [he113.eq, true_and, and_true]) <;> omega), (by first | ((try simp only [he113.eq, true_and, and_true]) <;> omega) | ((try simp only [he113.eq]); unfold jsy; (repeat' split) <;> omega))⟩, rfl⟩)
    · refine Jz_iconst 1 dX7_stepY_104 (by decide) (fun y104 he104 => ?_)
      refine J_goto (tgt := 118) dX7_stepY_105 (by decide) ?_
      exact J_ret (r := some (.int _)) dX7_stepY_118 ⟨rfl, _, rfl, rfl⟩ (⟨⟨_, rfl, (by (try simp only [he104.eq, true_and, and_true]) <;> omega), (by (try simp only [he104.eq, true_and, and_true]) <;> omega), (by first | ((try simp only [he104.eq, true_and, and_true]) <;> omega) | ((try simp only [he104.eq]); unfold jsy; (repeat' split) <;> omega))⟩, rfl⟩)
  · refine J_tableOut (tgt := 99) dX7_stepY_1 (Or.inr hx1) (by decide) ?_
    refine J_iload_n dX7_stepY_99 rfl ?_
    refine Jz_iconst 1 dX7_stepY_100 (by decide) (fun y100 he100 => ?_)
    refine Jz_icmp_ne (tgt := 108) jEq.rf he100 dX7_stepY_101 (by decide) (fun c101 => ?_) (fun c101 => ?_)
    · refine J_iload_n dX7_stepY_108 rfl ?_
      refine Jz_iconst 4 dX7_stepY_109 (by decide) (fun y109 he109 => ?_)
      refine Jz_icmp_ne (tgt := 117) jEq.rf he109 dX7_stepY_110 (by decide) (fun c110 => ?_) (fun c110 => ?_)
      · refine Jz_iconst 0 dX7_stepY_117 (by decide) (fun y117 he117 => ?_)
        exact J_ret (r := some (.int _)) dX7_stepY_118 ⟨rfl, _, rfl, rfl⟩ (⟨⟨_, rfl, (by (try simp only [he117.eq, true_and, and_true]) <;> omega), (by (try simp only [he117.eq, true_and, and_true]) <;> omega), (by first | ((try simp only [he117.eq, true_and, and_true]) <;> omega) | ((try simp only [he117.eq]); unfold jsy; (repeat' split) <;> omega))⟩, rfl⟩)
      · refine Jz_iconst (-1) dX7_stepY_113 (by decide) (fun y113 he113 => ?_)
        refine J_goto (tgt := 118) dX7_stepY_114 (by decide) ?_
        exact J_ret (r := some (.int _)) dX7_stepY_118 ⟨rfl, _, rfl, rfl⟩ (⟨⟨_, rfl, (by (try simp only [he113.eq, true_and, and_true]) <;> omega), (by (try simp only [he113.eq, true_and, and_true]) <;> omega), (by first | ((try simp only [he113.eq, true_and, and_true]) <;> omega) | ((try simp only [he113.eq]); unfold jsy; (repeat' split) <;> omega))⟩, rfl⟩)
    · refine Jz_iconst 1 dX7_stepY_104 (by decide) (fun y104 he104 => ?_)
      refine J_goto (tgt := 118) dX7_stepY_105 (by decide) ?_
      exact J_ret (r := some (.int _)) dX7_stepY_118 ⟨rfl, _, rfl, rfl⟩ (⟨⟨_, rfl, (by (try simp only [he104.eq, true_and, and_true]) <;> omega), (by (try simp only [he104.eq, true_and, and_true]) <;> omega), (by first | ((try simp only [he104.eq, true_and, and_true]) <;> omega) | ((try simp only [he104.eq]); unfold jsy; (repeat' split) <;> omega))⟩, rfl⟩)
set_option maxRecDepth 100000 in
set_option maxHeartbeats 8000000 in
theorem w_X7_stepZ_z {tS : jTS} (d : Nat) (V0 : jH) (x0 : Int32) (x1 : Int32) (hd : 0 ≤ d)  (hp0 : 0 ≤ x0.toInt) (hp1 : x0.toInt ≤ 3) : jTot tS mX7_stepZ d [.int x0, .int x1] V0 0 0 (fun r V => (fun r _ => ∃ y : Int32, r = some (.int y) ∧ ((-1) ≤ y.toInt) ∧ (y.toInt ≤ 1) ∧ (y.toInt = jsz x0.toInt x1.toInt)) r V ∧ V = V0) := by
  refine jTot.of_J [some (.int x0), some (.int x1)] moX7_stepZ (Nat.le_of_ble_eq_true rfl) rfl ?_
  have hrx0 := j_rng x0
  have hrx1 := j_rng x1
  refine J_iload_n dX7_stepZ_0 rfl ?_
  refine Jz_iconst 3 dX7_stepZ_1 (by decide) (fun y1 he1 => ?_)
  refine Jz_icmp_eq (tgt := 9) jEq.rf he1 dX7_stepZ_2 (by decide) (fun c2 => ?_) (fun c2 => ?_)
  · refine J_iload_n dX7_stepZ_9 rfl ?_
    refine Jz_iconst 2 dX7_stepZ_10 (by decide) (fun y10 he10 => ?_)
    refine Jz_icmp_ne (tgt := 18) jEq.rf he10 dX7_stepZ_11 (by decide) (fun c11 => ?_) (fun c11 => ?_)
    · refine J_iload_n dX7_stepZ_18 rfl ?_
      refine Jz_iconst 5 dX7_stepZ_19 (by decide) (fun y19 he19 => ?_)
      refine Jz_icmp_ne (tgt := 27) jEq.rf he19 dX7_stepZ_20 (by decide) (fun c20 => ?_) (fun c20 => ?_)
      · refine Jz_iconst 0 dX7_stepZ_27 (by decide) (fun y27 he27 => ?_)
        exact J_ret (r := some (.int _)) dX7_stepZ_28 ⟨rfl, _, rfl, rfl⟩ (⟨⟨_, rfl, (by (try simp only [he27.eq, true_and, and_true]) <;> omega), (by (try simp only [he27.eq, true_and, and_true]) <;> omega), (by first | ((try simp only [he27.eq, true_and, and_true]) <;> omega) | ((try simp only [he27.eq]); unfold jsz; (repeat' split) <;> omega))⟩, rfl⟩)
      · refine Jz_iconst (-1) dX7_stepZ_23 (by decide) (fun y23 he23 => ?_)
        refine J_goto (tgt := 28) dX7_stepZ_24 (by decide) ?_
        exact J_ret (r := some (.int _)) dX7_stepZ_28 ⟨rfl, _, rfl, rfl⟩ (⟨⟨_, rfl, (by (try simp only [he23.eq, true_and, and_true]) <;> omega), (by (try simp only [he23.eq, true_and, and_true]) <;> omega), (by first | ((try simp only [he23.eq, true_and, and_true]) <;> omega) | ((try simp only [he23.eq]); unfold jsz; (repeat' split) <;> omega))⟩, rfl⟩)
    · refine Jz_iconst 1 dX7_stepZ_14 (by decide) (fun y14 he14 => ?_)
      refine J_goto (tgt := 28) dX7_stepZ_15 (by decide) ?_
      exact J_ret (r := some (.int _)) dX7_stepZ_28 ⟨rfl, _, rfl, rfl⟩ (⟨⟨_, rfl, (by (try simp only [he14.eq, true_and, and_true]) <;> omega), (by (try simp only [he14.eq, true_and, and_true]) <;> omega), (by first | ((try simp only [he14.eq, true_and, and_true]) <;> omega) | ((try simp only [he14.eq]); unfold jsz; (repeat' split) <;> omega))⟩, rfl⟩)
  · refine Jz_iconst 0 dX7_stepZ_5 (by decide) (fun y5 he5 => ?_)
    refine J_goto (tgt := 28) dX7_stepZ_6 (by decide) ?_
    exact J_ret (r := some (.int _)) dX7_stepZ_28 ⟨rfl, _, rfl, rfl⟩ (⟨⟨_, rfl, (by (try simp only [he5.eq, true_and, and_true]) <;> omega), (by (try simp only [he5.eq, true_and, and_true]) <;> omega), (by first | ((try simp only [he5.eq, true_and, and_true]) <;> omega) | ((try simp only [he5.eq]); unfold jsz; (repeat' split) <;> omega))⟩, rfl⟩)
set_option maxRecDepth 100000 in
set_option maxHeartbeats 8000000 in
theorem w_X7_brings_z {tS : jTS} (d : Nat) (V0 : jH) (a0 : Nat) (x1 : Int32) (mn : Nat) (sp : Nat) (rw : Nat) (MN : Nat → Int32) (SP : Nat → Int32) (RW : Nat → Int32) (hd : 0 ≤ d) (hW : WT V0) (ha0 : jis V0 (.inr 5) a0) (hr_mn : jfR V0 a0 5 2 mn) (hr_sp : jfR V0 a0 5 3 sp) (hr_rw : jfR V0 a0 5 4 rw) (ha_MN : V0 mn = some (.inl (15, 16, .inl MN))) (ha_SP : V0 sp = some (.inl (16, 960, .inl SP))) (ha_RW : V0 rw = some (.inl (17, 120, .inl RW))) (hp0 : 0 ≤ x1.toInt) (hp1 : x1.toInt ≤ 15) : jTot tS mX7_brings d [.ref a0, .int x1] V0 0 0 (fun r V => (jPost [.inr 5, .inl 17] V0 rV) r V ∧ (∃ R2 : Nat → Int32, V rw = some (.inl (17, 120, .inl R2)) ∧ ∀ j : Nat, (j : Int) < (MN x1.toInt.toNat).toInt → R2 j = SP (60 * x1.toInt.toNat + j)) ∧ jkc 5 [0, 23, 24] V0 V ∧ (∃ v5 : Int32, jfI V a0 5 5 v5 ∧ (v5.toInt = (MN x1.toInt.toNat).toInt))) := by
  refine jTot.of_J [some (.ref a0), some (.int x1), none] moX7_brings (Nat.le_of_ble_eq_true rfl) rfl ?_
  have hrx1 := j_rng x1
  have he : jeff [.inr 5, .inl 17] V0 V0 := jeff.refl _ _
  have hkp : jkc 5 [0, 23, 24] V0 V0 := jkc.rf
  obtain ⟨fs_a0, hO_a0, hK_a0⟩ := WT_obj hW id ha0
  have hF_mn := hr_mn.get hO_a0
  obtain ⟨w_mn, hFq_mn, b_mn, hbq_mn, hb_mn⟩ := hK_a0.2 2 (.inr (some (.inl 15))) rfl
  cases hF_mn.symm.trans (hFq_mn.trans (congrArg some hbq_mn))
  have hF_sp := hr_sp.get hO_a0
  obtain ⟨w_sp, hFq_sp, b_sp, hbq_sp, hb_sp⟩ := hK_a0.2 3 (.inr (some (.inl 16))) rfl
  cases hF_sp.symm.trans (hFq_sp.trans (congrArg some hbq_sp))
  have hF_rw := hr_rw.get hO_a0
  obtain ⟨w_rw, hFq_rw, b_rw, hbq_rw, hb_rw⟩ := hK_a0.2 4 (.inr (some (.inl 17))) rfl
  cases hF_rw.symm.trans (hFq_rw.trans (congrArg some hbq_rw))
  obtain ⟨hN_MN, hv_MN⟩ := WT_rngI (r := (0, 60)) hW id rfl ha_MN
  clear hN_MN
  obtain ⟨hN_SP, hv_SP⟩ := WT_rngI (r := ((-2147483648), 2147483647)) hW id rfl ha_SP
  clear hN_SP
  obtain ⟨hN_RW, hv_RW⟩ := WT_rngI (r := ((-2147483648), 2147483647)) hW id rfl ha_RW
  clear hN_RW
  refine J_aload_n dX7_brings_0 rfl ?_
  refine J_aload_n dX7_brings_1 rfl ?_
  refine J_get jf_X7_13 dX7_brings_2 hO_a0 hF_mn ?_
  refine J_iload_n dX7_brings_5 rfl ?_
  refine Jz_iald (r := (0, 60)) jEq.rf dX7_brings_6 ha_MN rfl hv_MN (by omega) (by omega) (fun y6 hf6 hl6 hh6 => ?_)
  dsimp only at hl6 hh6
  refine Jz_putI hO_a0 hW id rfl jf_X7_109 jt_X7_5 jEq.rf dX7_brings_7 (by omega) (by omega) (fun _ _ => ⟨rfl, rfl⟩) (fun V7 fs7 hW hx7 hO7 hS7 hT7 hB7 => ?_)
  have hK7 : jokO _ (jFs 5) fs7 := hW _ _ id hO7
  have hF7_2 := (hT7 2 (by decide)).trans hF_mn
  have hF7_3 := (hT7 3 (by decide)).trans hF_sp
  have hF7_4 := (hT7 4 (by decide)).trans hF_rw
  have he := he.trans (hx7.sub (jsub_of rfl))
  have hkp := hkp.trans (jkc.put hO_a0 hO7 hT7 hB7 (by decide))
  have ha0 := ha0.mono hx7.1
  have hb_mn := hb_mn.mono hx7.1
  have hb_sp := hb_sp.mono hx7.1
  have hb_rw := hb_rw.mono hx7.1
  have ha_MN := hx7.2 _ _ ha_MN (jnot_of rfl)
  have ha_SP := hx7.2 _ _ ha_SP (jnot_of rfl)
  have ha_RW := hx7.2 _ _ ha_RW (jnot_of rfl)
  refine Jz_iconst 0 dX7_brings_10 (by decide) (fun y10 he10 => ?_)
  refine J_istore_n dX7_brings_11 rfl (by decide) ?_
  have L12 : ∀ (N : Nat) (V : jH) (i2n12 : Int32) (F17n12 : Nat → Int32), WT V → jeff [.inr 5, .inl 17] V0 V → (jis V (.inr 5) a0) → (jis V (.inl 15) mn) → (jis V (.inl 16) sp) → (jis V (.inl 17) rw) → (jkc 5 [0, 23, 24] V0 V) → (V a0 = some (.inr (5, fs7))) → (jokO V (jFs 5) fs7) → (V rw = some (.inl (17, 120, .inl F17n12))) → (V mn = some (.inl (15, 16, .inl MN))) → (V sp = some (.inl (16, 960, .inl SP))) → (0 ≤ i2n12.toInt ∧ i2n12.toInt ≤ (MN x1.toInt.toNat).toInt) → (∀ j : Nat, (j : Int) < i2n12.toInt → F17n12 j = SP (60 * x1.toInt.toNat + j)) → (300 - i2n12.toInt).toNat < N → J tS mX7_brings d 12 [some (.ref a0), some (.int x1), some (.int i2n12)] [] V 0 0 (fun r V => (jPost [.inr 5, .inl 17] V0 rV) r V ∧ (∃ R2 : Nat → Int32, V rw = some (.inl (17, 120, .inl R2)) ∧ ∀ j : Nat, (j : Int) < (MN x1.toInt.toNat).toInt → R2 j = SP (60 * x1.toInt.toNat + j)) ∧ jkc 5 [0, 23, 24] V0 V ∧ (∃ v5 : Int32, jfI V a0 5 5 v5 ∧ (v5.toInt = (MN x1.toInt.toNat).toInt))) := by
    intro N
    induction N with
    | zero => intro V i2n12 F17n12 hW he ha0 hb_mn hb_sp hb_rw hkp hO7 hK7 hAF17n12 ha_MN ha_SP hi2 hr hm; exact absurd hm (Nat.not_lt_zero _)
    | succ N ih =>
      intro V i2n12 F17n12 hW he ha0 hb_mn hb_sp hb_rw hkp hO7 hK7 hAF17n12 ha_MN ha_SP hi2 hr hm
      have ih12 := ih
      have hri2 := j_rng i2n12
      obtain ⟨hNF17n12, hvF17n12⟩ := WT_rngI (r := ((-2147483648), 2147483647)) hW id rfl hAF17n12
      clear hNF17n12
      have hmn : (MN x1.toInt.toNat).toInt = y6.toInt := by rw [hf6]
      refine J_iload_n dX7_brings_12 rfl ?_
      refine J_aload_n dX7_brings_13 rfl ?_
      refine J_get jf_X7_109 dX7_brings_14 hO7 hS7 ?_
      refine Jz_icmp_ge (tgt := 43) jEq.rf jEq.rf dX7_brings_17 (by decide) (fun c17 => ?_) (fun c17 => ?_)
      · exact J_ret (r := none) dX7_brings_43 ⟨rfl, rfl⟩ (⟨⟨hW, he, rfl⟩, ⟨F17n12, hAF17n12, fun j hj => hr j (by omega)⟩, hkp, ⟨_, ⟨_, hO7, hS7⟩, (by omega)⟩⟩)
      · refine J_aload_n dX7_brings_20 rfl ?_
        refine J_get jf_X7_19 dX7_brings_21 hO7 hF7_4 ?_
        refine J_iload_n dX7_brings_24 rfl ?_
        refine J_aload_n dX7_brings_25 rfl ?_
        refine J_get jf_X7_16 dX7_brings_26 hO7 hF7_3 ?_
        refine Jz_bipush 60 dX7_brings_29 (by decide) (fun y29 he29 => ?_)
        refine J_iload_n dX7_brings_31 rfl ?_
        refine Jz_imul he29 jEq.rf dX7_brings_32 (by omega) (by omega) (fun y32 he32 => ?_)
        refine J_iload_n dX7_brings_33 rfl ?_
        refine Jz_iadd he32 jEq.rf dX7_brings_34 (by omega) (by omega) (fun y34 he34 => ?_)
        refine Jz_iald (r := ((-2147483648), 2147483647)) he34 dX7_brings_35 ha_SP rfl hv_SP (by omega) (by omega) (fun y35 hf35 hl35 hh35 => ?_)
        dsimp only at hl35 hh35
        clear hl35 hh35
        refine Jz_iast (r := ((-2147483648), 2147483647)) jEq.rf jEq.rf hW id dX7_brings_36 hAF17n12 rfl rfl (by omega) (by omega) (j_rng _).1 (j_rng _).2 (fun V36 G36 hW hx36 hA36 hp36 ho36 => ?_)
        obtain ⟨hN36, hv36⟩ := WT_rngI (r := ((-2147483648), 2147483647)) hW id rfl hA36
        clear hN36
        have he := he.trans (hx36.sub (jsub_of rfl))
        have hkp := hkp.trans (jkc.of hx36 (jnot_of rfl))
        have ha0 := ha0.mono hx36.1
        have hb_mn := hb_mn.mono hx36.1
        have hb_sp := hb_sp.mono hx36.1
        have hb_rw := hb_rw.mono hx36.1
        have hO7 := hx36.2 _ _ hO7 (jnot_of rfl)
        have hK7 := hK7.mono hx36.1
        have ha_MN := hx36.2 _ _ ha_MN (jnot_of rfl)
        have ha_SP := hx36.2 _ _ ha_SP (jnot_of rfl)
        refine Jz_iinc 1 dX7_brings_37 rfl rfl (by decide) jEq.rf (by decide) (by omega) (by omega) (fun y37 he37 => ?_)
        refine J_goto (tgt := 12) dX7_brings_40 (by decide) ?_
        refine J.mask [true, true, true] ?_
        exact ih12 _ y37 G36 hW he ha0 hb_mn hb_sp hb_rw hkp hO7 hK7 hA36 ha_MN ha_SP (by (try simp only [he37.eq, true_and, and_true]) <;> omega) (fun j hj => by rw [he37.eq] at hj; by_cases h9 : (j : Int) = i2n12.toInt; (have e : j = i2n12.toInt.toNat := by omega); subst e; rw [hp36, ← hf35]; exact congrArg SP (by omega); rw [ho36 j (by omega)]; exact hr j (by omega)) (by (try simp only [he37.eq, true_and, and_true]) <;> omega)
  refine J.mask [true, true, true] ?_
  exact L12 _ _ y10 RW hW he ha0 hb_mn hb_sp hb_rw hkp hO7 hK7 ha_RW ha_MN ha_SP (by rw [hf6, he10.eq]; omega) (fun j hj => by rw [he10.eq] at hj; omega) (Nat.lt_succ_self _)
set_option maxRecDepth 100000 in
set_option maxHeartbeats 8000000 in
theorem w_X7_goes_z {tS : jTS} (d : Nat) (V0 : jH) (a0 : Nat) (x1 : Int32) (n : Int32) (rw : Nat) (px : Nat) (py : Nat) (pz : Nat) (RW : Nat → Int32) (PX : Nat → Int32) (PY : Nat → Int32) (PZ : Nat → Int32) (hd : 1 ≤ d) (hW : WT V0) (ha0 : jis V0 (.inr 5) a0) (hf_n : jfI V0 a0 5 5 n) (hr_rw : jfR V0 a0 5 4 rw) (hr_px : jfR V0 a0 5 6 px) (hr_py : jfR V0 a0 5 7 py) (hr_pz : jfR V0 a0 5 8 pz) (ha_RW : V0 rw = some (.inl (17, 120, .inl RW))) (ha_PX : V0 px = some (.inl (18, 121, .inl PX))) (ha_PY : V0 py = some (.inl (19, 121, .inl PY))) (ha_PZ : V0 pz = some (.inl (20, 121, .inl PZ))) (hp0 : 0 ≤ x1.toInt) (hp1 : x1.toInt ≤ 3) : jTot tS mX7_goes d [.ref a0, .int x1] V0 0 0 (fun r V => (jPost [.inl 18, .inl 19, .inl 20] V0 (fun r _ => ∃ y : Int32, r = some (.int y) ∧ (0 ≤ y.toInt) ∧ (y.toInt ≤ 1) ∧ ((y.toInt = 1 ∧ jav x1.toInt (fun q => (RW q).toInt) n.toInt.toNat) ∨ (y.toInt = 0 ∧ ¬ jav x1.toInt (fun q => (RW q).toInt) n.toInt.toNat)))) r V ∧ (∃ X Y Z : Nat → Int32, V px = some (.inl (18, 121, .inl X)) ∧ V py = some (.inl (19, 121, .inl Y)) ∧ V pz = some (.inl (20, 121, .inl Z)) ∧ jrv x1.toInt (fun q => (RW q).toInt) n.toInt.toNat X Y Z)) := by
  refine jTot.of_J [some (.ref a0), some (.int x1), none, none, none] moX7_goes (Nat.le_of_ble_eq_true rfl) rfl ?_
  have hrx1 := j_rng x1
  have he : jeff [.inl 18, .inl 19, .inl 20] V0 V0 := jeff.refl _ _
  obtain ⟨fs_a0, hO_a0, hK_a0⟩ := WT_obj hW id ha0
  have hF_n := hf_n.get hO_a0
  have hrn : 0 ≤ n.toInt ∧ n.toInt ≤ 120 := jok_rngI hK_a0 rfl hF_n
  have hF_rw := hr_rw.get hO_a0
  obtain ⟨w_rw, hFq_rw, b_rw, hbq_rw, hb_rw⟩ := hK_a0.2 4 (.inr (some (.inl 17))) rfl
  cases hF_rw.symm.trans (hFq_rw.trans (congrArg some hbq_rw))
  have hF_px := hr_px.get hO_a0
  obtain ⟨w_px, hFq_px, b_px, hbq_px, hb_px⟩ := hK_a0.2 6 (.inr (some (.inl 18))) rfl
  cases hF_px.symm.trans (hFq_px.trans (congrArg some hbq_px))
  have hF_py := hr_py.get hO_a0
  obtain ⟨w_py, hFq_py, b_py, hbq_py, hb_py⟩ := hK_a0.2 7 (.inr (some (.inl 19))) rfl
  cases hF_py.symm.trans (hFq_py.trans (congrArg some hbq_py))
  have hF_pz := hr_pz.get hO_a0
  obtain ⟨w_pz, hFq_pz, b_pz, hbq_pz, hb_pz⟩ := hK_a0.2 8 (.inr (some (.inl 20))) rfl
  cases hF_pz.symm.trans (hFq_pz.trans (congrArg some hbq_pz))
  obtain ⟨hN_RW, hv_RW⟩ := WT_rngI (r := ((-2147483648), 2147483647)) hW id rfl ha_RW
  clear hN_RW
  obtain ⟨hN_PX, hv_PX⟩ := WT_rngI (r := ((-2147483648), 2147483647)) hW id rfl ha_PX
  clear hN_PX
  obtain ⟨hN_PY, hv_PY⟩ := WT_rngI (r := ((-2147483648), 2147483647)) hW id rfl ha_PY
  clear hN_PY
  obtain ⟨hN_PZ, hv_PZ⟩ := WT_rngI (r := ((-2147483648), 2147483647)) hW id rfl ha_PZ
  clear hN_PZ
  refine Jz_iconst 1 dX7_goes_0 (by decide) (fun y0 he0 => ?_)
  refine J_istore_n dX7_goes_1 rfl (by decide) ?_
  refine J_aload_n dX7_goes_2 rfl ?_
  refine J_get jf_X7_22 dX7_goes_3 hO_a0 hF_px ?_
  refine Jz_iconst 0 dX7_goes_6 (by decide) (fun y6 he6 => ?_)
  refine Jz_iconst 0 dX7_goes_7 (by decide) (fun y7 he7 => ?_)
  refine Jz_iast (r := ((-2147483648), 2147483647)) he6 he7 hW id dX7_goes_8 ha_PX rfl rfl (by omega) (by omega) (by omega) (by omega) (fun V8 G8 hW hx8 hA8 hp8 ho8 => ?_)
  obtain ⟨hN8, hv8⟩ := WT_rngI (r := ((-2147483648), 2147483647)) hW id rfl hA8
  clear hN8
  have he := he.trans (hx8.sub (jsub_of rfl))
  have ha0 := ha0.mono hx8.1
  have hb_rw := hb_rw.mono hx8.1
  have hb_px := hb_px.mono hx8.1
  have hb_py := hb_py.mono hx8.1
  have hb_pz := hb_pz.mono hx8.1
  have hO_a0 := hx8.2 _ _ hO_a0 (jnot_of rfl)
  have hK_a0 := hK_a0.mono hx8.1
  have ha_RW := hx8.2 _ _ ha_RW (jnot_of rfl)
  have ha_PY := hx8.2 _ _ ha_PY (jnot_of rfl)
  have ha_PZ := hx8.2 _ _ ha_PZ (jnot_of rfl)
  refine J_aload_n dX7_goes_9 rfl ?_
  refine J_get jf_X7_25 dX7_goes_10 hO_a0 hF_py ?_
  refine Jz_iconst 0 dX7_goes_13 (by decide) (fun y13 he13 => ?_)
  refine Jz_iconst 0 dX7_goes_14 (by decide) (fun y14 he14 => ?_)
  refine Jz_iast (r := ((-2147483648), 2147483647)) he13 he14 hW id dX7_goes_15 ha_PY rfl rfl (by omega) (by omega) (by omega) (by omega) (fun V15 G15 hW hx15 hA15 hp15 ho15 => ?_)
  obtain ⟨hN15, hv15⟩ := WT_rngI (r := ((-2147483648), 2147483647)) hW id rfl hA15
  clear hN15
  have he := he.trans (hx15.sub (jsub_of rfl))
  have ha0 := ha0.mono hx15.1
  have hb_rw := hb_rw.mono hx15.1
  have hb_px := hb_px.mono hx15.1
  have hb_py := hb_py.mono hx15.1
  have hb_pz := hb_pz.mono hx15.1
  have hO_a0 := hx15.2 _ _ hO_a0 (jnot_of rfl)
  have hK_a0 := hK_a0.mono hx15.1
  have ha_RW := hx15.2 _ _ ha_RW (jnot_of rfl)
  have ha_PZ := hx15.2 _ _ ha_PZ (jnot_of rfl)
  have hA8 := hx15.2 _ _ hA8 (jnot_of rfl)
  refine J_aload_n dX7_goes_16 rfl ?_
  refine J_get jf_X7_28 dX7_goes_17 hO_a0 hF_pz ?_
  refine Jz_iconst 0 dX7_goes_20 (by decide) (fun y20 he20 => ?_)
  refine Jz_iconst 0 dX7_goes_21 (by decide) (fun y21 he21 => ?_)
  refine Jz_iast (r := ((-2147483648), 2147483647)) he20 he21 hW id dX7_goes_22 ha_PZ rfl rfl (by omega) (by omega) (by omega) (by omega) (fun V22 G22 hW hx22 hA22 hp22 ho22 => ?_)
  obtain ⟨hN22, hv22⟩ := WT_rngI (r := ((-2147483648), 2147483647)) hW id rfl hA22
  clear hN22
  have he := he.trans (hx22.sub (jsub_of rfl))
  have ha0 := ha0.mono hx22.1
  have hb_rw := hb_rw.mono hx22.1
  have hb_px := hb_px.mono hx22.1
  have hb_py := hb_py.mono hx22.1
  have hb_pz := hb_pz.mono hx22.1
  have hO_a0 := hx22.2 _ _ hO_a0 (jnot_of rfl)
  have hK_a0 := hK_a0.mono hx22.1
  have ha_RW := hx22.2 _ _ ha_RW (jnot_of rfl)
  have hA8 := hx22.2 _ _ hA8 (jnot_of rfl)
  have hA15 := hx22.2 _ _ hA15 (jnot_of rfl)
  refine Jz_iconst 0 dX7_goes_23 (by decide) (fun y23 he23 => ?_)
  refine J_istore_n dX7_goes_24 rfl (by decide) ?_
  have L25 : ∀ (N : Nat) (V : jH) (i2n25 : Int32) (i3n25 : Int32) (F18n25 : Nat → Int32) (F19n25 : Nat → Int32) (F20n25 : Nat → Int32), WT V → jeff [.inl 18, .inl 19, .inl 20] V0 V → (jis V (.inr 5) a0) → (jis V (.inl 17) rw) → (jis V (.inl 18) px) → (jis V (.inl 19) py) → (jis V (.inl 20) pz) → (V a0 = some (.inr (5, fs_a0))) → (jokO V (jFs 5) fs_a0) → (V px = some (.inl (18, 121, .inl F18n25))) → (V py = some (.inl (19, 121, .inl F19n25))) → (V pz = some (.inl (20, 121, .inl F20n25))) → (V rw = some (.inl (17, 120, .inl RW))) → (0 ≤ i3n25.toInt ∧ i3n25.toInt ≤ n.toInt) → (jrv x1.toInt (fun q => (RW q).toInt) i3n25.toInt.toNat F18n25 F19n25 F20n25) → ((i2n25.toInt = 1 ∧ jav x1.toInt (fun q => (RW q).toInt) i3n25.toInt.toNat) ∨ (i2n25.toInt = 0 ∧ ¬ jav x1.toInt (fun q => (RW q).toInt) i3n25.toInt.toNat)) → (300 - i3n25.toInt).toNat < N → J tS mX7_goes d 25 [some (.ref a0), some (.int x1), some (.int i2n25), some (.int i3n25), none] [] V 0 0 (fun r V => (jPost [.inl 18, .inl 19, .inl 20] V0 (fun r _ => ∃ y : Int32, r = some (.int y) ∧ (0 ≤ y.toInt) ∧ (y.toInt ≤ 1) ∧ ((y.toInt = 1 ∧ jav x1.toInt (fun q => (RW q).toInt) n.toInt.toNat) ∨ (y.toInt = 0 ∧ ¬ jav x1.toInt (fun q => (RW q).toInt) n.toInt.toNat)))) r V ∧ (∃ X Y Z : Nat → Int32, V px = some (.inl (18, 121, .inl X)) ∧ V py = some (.inl (19, 121, .inl Y)) ∧ V pz = some (.inl (20, 121, .inl Z)) ∧ jrv x1.toInt (fun q => (RW q).toInt) n.toInt.toNat X Y Z)) := by
    intro N
    induction N with
    | zero => intro V i2n25 i3n25 F18n25 F19n25 F20n25 hW he ha0 hb_rw hb_px hb_py hb_pz hO_a0 hK_a0 hAF18n25 hAF19n25 hAF20n25 ha_RW hi3 hjr hon hm; exact absurd hm (Nat.not_lt_zero _)
    | succ N ih =>
      intro V i2n25 i3n25 F18n25 F19n25 F20n25 hW he ha0 hb_rw hb_px hb_py hb_pz hO_a0 hK_a0 hAF18n25 hAF19n25 hAF20n25 ha_RW hi3 hjr hon hm
      have ih25 := ih
      have hri3 := j_rng i3n25
      obtain ⟨hNF18n25, hvF18n25⟩ := WT_rngI (r := ((-2147483648), 2147483647)) hW id rfl hAF18n25
      clear hNF18n25
      obtain ⟨hNF19n25, hvF19n25⟩ := WT_rngI (r := ((-2147483648), 2147483647)) hW id rfl hAF19n25
      clear hNF19n25
      obtain ⟨hNF20n25, hvF20n25⟩ := WT_rngI (r := ((-2147483648), 2147483647)) hW id rfl hAF20n25
      clear hNF20n25
      refine J_iload_n dX7_goes_25 rfl ?_
      refine J_aload_n dX7_goes_26 rfl ?_
      refine J_get jf_X7_109 dX7_goes_27 hO_a0 hF_n ?_
      refine Jz_icmp_ge (tgt := 206) jEq.rf jEq.rf dX7_goes_30 (by decide) (fun c30 => ?_) (fun c30 => ?_)
      · refine J_iload_n dX7_goes_206 rfl ?_
        exact J_ret (r := some (.int _)) dX7_goes_207 ⟨rfl, _, rfl, (nar_b (by omega) (by omega))⟩ (⟨⟨hW, he, ⟨_, rfl, (by omega), (by omega), (by rw [show n.toInt.toNat = i3n25.toInt.toNat by omega]; exact hon)⟩⟩, ⟨F18n25, F19n25, F20n25, hAF18n25, hAF19n25, hAF20n25, by rw [show n.toInt.toNat = i3n25.toInt.toNat by omega]; exact hjr⟩⟩)
      · have hb0 := hjr.b i3n25.toInt.toNat (Nat.le_refl _)
        refine J_aload_n dX7_goes_33 rfl ?_
        refine J_get jf_X7_22 dX7_goes_34 hO_a0 hF_px ?_
        refine J_iload_n dX7_goes_37 rfl ?_
        refine Jz_iconst 1 dX7_goes_38 (by decide) (fun y38 he38 => ?_)
        refine Jz_iadd jEq.rf he38 dX7_goes_39 (by omega) (by omega) (fun y39 he39 => ?_)
        refine J_aload_n dX7_goes_40 rfl ?_
        refine J_get jf_X7_22 dX7_goes_41 hO_a0 hF_px ?_
        refine J_iload_n dX7_goes_44 rfl ?_
        refine Jz_iald (r := ((-2147483648), 2147483647)) jEq.rf dX7_goes_45 hAF18n25 rfl hvF18n25 (by omega) (by omega) (fun y45 hf45 hl45 hh45 => ?_)
        dsimp only at hl45 hh45
        clear hl45 hh45
        rw [hf45] at hb0
        refine J_iload_n dX7_goes_46 rfl ?_
        refine J_aload_n dX7_goes_47 rfl ?_
        refine J_get jf_X7_19 dX7_goes_48 hO_a0 hF_rw ?_
        refine J_iload_n dX7_goes_51 rfl ?_
        refine Jz_iald (r := ((-2147483648), 2147483647)) jEq.rf dX7_goes_52 ha_RW rfl hv_RW (by omega) (by omega) (fun y52 hf52 hl52 hh52 => ?_)
        dsimp only at hl52 hh52
        clear hl52 hh52
        refine J_callS2 moX7_stepX jw_ml_X7_112 jw_st_X7_stepX dX7_goes_53 (w_X7_stepX_z (d - 1) _ x1 y52 (by omega)   (by omega) (by omega)) (by omega) (Nat.zero_le _) (Nat.zero_le _) (Nat.le_of_ble_eq_true rfl) (fun r53 V53 h53 => ?_)
        obtain ⟨⟨y53, rfl, hl53, hh53, hP53_0⟩, hE53⟩ := h53
        have hE53 := hE53.symm
        subst hE53
        have hz53 : jEq y53.toInt (jsx (x1.toInt) (y52.toInt)) := hP53_0
        simp only [hP53_0] at hl53 hh53
        clear hP53_0
        have hbx := jsx_b x1.toInt y52.toInt
        refine Jz_iadd jEq.rf hz53 dX7_goes_56 (by omega) (by omega) (fun y56 he56 => ?_)
        refine Jz_iast (r := ((-2147483648), 2147483647)) he39 he56 hW id dX7_goes_57 hAF18n25 rfl rfl (by omega) (by omega) (by omega) (by omega) (fun V57 G57 hW hx57 hA57 hp57 ho57 => ?_)
        obtain ⟨hN57, hv57⟩ := WT_rngI (r := ((-2147483648), 2147483647)) hW id rfl hA57
        clear hN57
        have he := he.trans (hx57.sub (jsub_of rfl))
        have ha0 := ha0.mono hx57.1
        have hb_rw := hb_rw.mono hx57.1
        have hb_px := hb_px.mono hx57.1
        have hb_py := hb_py.mono hx57.1
        have hb_pz := hb_pz.mono hx57.1
        have hO_a0 := hx57.2 _ _ hO_a0 (jnot_of rfl)
        have hK_a0 := hK_a0.mono hx57.1
        have hAF19n25 := hx57.2 _ _ hAF19n25 (jnot_of rfl)
        have hAF20n25 := hx57.2 _ _ hAF20n25 (jnot_of rfl)
        have ha_RW := hx57.2 _ _ ha_RW (jnot_of rfl)
        refine J_aload_n dX7_goes_58 rfl ?_
        refine J_get jf_X7_25 dX7_goes_59 hO_a0 hF_py ?_
        refine J_iload_n dX7_goes_62 rfl ?_
        refine Jz_iconst 1 dX7_goes_63 (by decide) (fun y63 he63 => ?_)
        refine Jz_iadd jEq.rf he63 dX7_goes_64 (by omega) (by omega) (fun y64 he64 => ?_)
        refine J_aload_n dX7_goes_65 rfl ?_
        refine J_get jf_X7_25 dX7_goes_66 hO_a0 hF_py ?_
        refine J_iload_n dX7_goes_69 rfl ?_
        refine Jz_iald (r := ((-2147483648), 2147483647)) jEq.rf dX7_goes_70 hAF19n25 rfl hvF19n25 (by omega) (by omega) (fun y70 hf70 hl70 hh70 => ?_)
        dsimp only at hl70 hh70
        clear hl70 hh70
        rw [hf70] at hb0
        refine J_iload_n dX7_goes_71 rfl ?_
        refine J_aload_n dX7_goes_72 rfl ?_
        refine J_get jf_X7_19 dX7_goes_73 hO_a0 hF_rw ?_
        refine J_iload_n dX7_goes_76 rfl ?_
        refine Jz_iald (r := ((-2147483648), 2147483647)) jEq.rf dX7_goes_77 ha_RW rfl hv_RW (by omega) (by omega) (fun y77 hf77 hl77 hh77 => ?_)
        dsimp only at hl77 hh77
        clear hl77 hh77
        have he77 : jEq y77.toInt (y52.toInt) := by rw [← hf77, hf52]; exact jEq.rf
        refine J_aload_n dX7_goes_78 rfl ?_
        refine J_get jf_X7_22 dX7_goes_79 hO_a0 hF_px ?_
        refine J_iload_n dX7_goes_82 rfl ?_
        refine Jz_iald (r := ((-2147483648), 2147483647)) jEq.rf dX7_goes_83 hA57 rfl hv57 (by omega) (by omega) (fun y83 hf83 hl83 hh83 => ?_)
        dsimp only at hl83 hh83
        clear hl83 hh83
        have e83 : y83 = y45 := by rw [← hf83, ← hf45]; exact ho57 _ (by omega)
        have hb83 : y83.toInt = y45.toInt := by rw [e83]
        refine J_aload_n dX7_goes_84 rfl ?_
        refine J_get jf_X7_25 dX7_goes_85 hO_a0 hF_py ?_
        refine J_iload_n dX7_goes_88 rfl ?_
        refine Jz_iald (r := ((-2147483648), 2147483647)) jEq.rf dX7_goes_89 hAF19n25 rfl hvF19n25 (by omega) (by omega) (fun y89 hf89 hl89 hh89 => ?_)
        dsimp only at hl89 hh89
        clear hl89 hh89
        have he89 : jEq y89.toInt (y70.toInt) := by rw [← hf89, hf70]; exact jEq.rf
        refine Jz_iadd jEq.rf he89 dX7_goes_90 (by omega) (by omega) (fun y90 he90 => ?_)
        refine J_callS3 moX7_stepY jw_ml_X7_115 jw_st_X7_stepY dX7_goes_91 (w_X7_stepY_z (d - 1) _ x1 y77 y90 (by omega)   (by omega) (by omega)) (by omega) (Nat.zero_le _) (Nat.zero_le _) (Nat.le_of_ble_eq_true rfl) (fun r91 V91 h91 => ?_)
        obtain ⟨⟨y91, rfl, hl91, hh91, hP91_0⟩, hE91⟩ := h91
        have hE91 := hE91.symm
        subst hE91
        try simp only [he77.eq, he90.eq] at hP91_0
        have hz91 : jEq y91.toInt (jsy (x1.toInt) (y52.toInt) (y83.toInt + y70.toInt)) := hP91_0
        simp only [hP91_0] at hl91 hh91
        clear hP91_0
        have hby := jsy_b x1.toInt y52.toInt (y83.toInt + y70.toInt)
        refine Jz_iadd jEq.rf hz91 dX7_goes_94 (by omega) (by omega) (fun y94 he94 => ?_)
        refine Jz_iast (r := ((-2147483648), 2147483647)) he64 he94 hW id dX7_goes_95 hAF19n25 rfl rfl (by omega) (by omega) (by omega) (by omega) (fun V95 G95 hW hx95 hA95 hp95 ho95 => ?_)
        obtain ⟨hN95, hv95⟩ := WT_rngI (r := ((-2147483648), 2147483647)) hW id rfl hA95
        clear hN95
        have he := he.trans (hx95.sub (jsub_of rfl))
        have ha0 := ha0.mono hx95.1
        have hb_rw := hb_rw.mono hx95.1
        have hb_px := hb_px.mono hx95.1
        have hb_py := hb_py.mono hx95.1
        have hb_pz := hb_pz.mono hx95.1
        have hO_a0 := hx95.2 _ _ hO_a0 (jnot_of rfl)
        have hK_a0 := hK_a0.mono hx95.1
        have hAF20n25 := hx95.2 _ _ hAF20n25 (jnot_of rfl)
        have ha_RW := hx95.2 _ _ ha_RW (jnot_of rfl)
        have hA57 := hx95.2 _ _ hA57 (jnot_of rfl)
        refine J_aload_n dX7_goes_96 rfl ?_
        refine J_get jf_X7_28 dX7_goes_97 hO_a0 hF_pz ?_
        refine J_iload_n dX7_goes_100 rfl ?_
        refine Jz_iconst 1 dX7_goes_101 (by decide) (fun y101 he101 => ?_)
        refine Jz_iadd jEq.rf he101 dX7_goes_102 (by omega) (by omega) (fun y102 he102 => ?_)
        refine J_aload_n dX7_goes_103 rfl ?_
        refine J_get jf_X7_28 dX7_goes_104 hO_a0 hF_pz ?_
        refine J_iload_n dX7_goes_107 rfl ?_
        refine Jz_iald (r := ((-2147483648), 2147483647)) jEq.rf dX7_goes_108 hAF20n25 rfl hvF20n25 (by omega) (by omega) (fun y108 hf108 hl108 hh108 => ?_)
        dsimp only at hl108 hh108
        clear hl108 hh108
        rw [hf108] at hb0
        refine J_iload_n dX7_goes_109 rfl ?_
        refine J_aload_n dX7_goes_110 rfl ?_
        refine J_get jf_X7_19 dX7_goes_111 hO_a0 hF_rw ?_
        refine J_iload_n dX7_goes_114 rfl ?_
        refine Jz_iald (r := ((-2147483648), 2147483647)) jEq.rf dX7_goes_115 ha_RW rfl hv_RW (by omega) (by omega) (fun y115 hf115 hl115 hh115 => ?_)
        dsimp only at hl115 hh115
        clear hl115 hh115
        have he115 : jEq y115.toInt (y52.toInt) := by rw [← hf115, hf52]; exact jEq.rf
        refine J_callS2 moX7_stepZ jw_ml_X7_119 jw_st_X7_stepZ dX7_goes_116 (w_X7_stepZ_z (d - 1) _ x1 y115 (by omega)   (by omega) (by omega)) (by omega) (Nat.zero_le _) (Nat.zero_le _) (Nat.le_of_ble_eq_true rfl) (fun r116 V116 h116 => ?_)
        obtain ⟨⟨y116, rfl, hl116, hh116, hP116_0⟩, hE116⟩ := h116
        have hE116 := hE116.symm
        subst hE116
        try simp only [he115.eq] at hP116_0
        have hz116 : jEq y116.toInt (jsz (x1.toInt) (y52.toInt)) := hP116_0
        simp only [hP116_0] at hl116 hh116
        clear hP116_0
        have hbz := jsz_b x1.toInt y52.toInt
        refine Jz_iadd jEq.rf hz116 dX7_goes_119 (by omega) (by omega) (fun y119 he119 => ?_)
        refine Jz_iast (r := ((-2147483648), 2147483647)) he102 he119 hW id dX7_goes_120 hAF20n25 rfl rfl (by omega) (by omega) (by omega) (by omega) (fun V120 G120 hW hx120 hA120 hp120 ho120 => ?_)
        obtain ⟨hN120, hv120⟩ := WT_rngI (r := ((-2147483648), 2147483647)) hW id rfl hA120
        clear hN120
        have he := he.trans (hx120.sub (jsub_of rfl))
        have ha0 := ha0.mono hx120.1
        have hb_rw := hb_rw.mono hx120.1
        have hb_px := hb_px.mono hx120.1
        have hb_py := hb_py.mono hx120.1
        have hb_pz := hb_pz.mono hx120.1
        have hO_a0 := hx120.2 _ _ hO_a0 (jnot_of rfl)
        have hK_a0 := hK_a0.mono hx120.1
        have ha_RW := hx120.2 _ _ ha_RW (jnot_of rfl)
        have hA57 := hx120.2 _ _ hA57 (jnot_of rfl)
        have hA95 := hx120.2 _ _ hA95 (jnot_of rfl)
        have hjr2 : jrv x1.toInt (fun q => (RW q).toInt) (i3n25.toInt.toNat + 1) G57 G95 G120 := hjr.lay (by have e : i3n25.toInt.toNat + 1 = (i3n25.toInt + 1).toNat := (by omega); rw [e, hp57, he56.eq, hf45]; show _ = _ + jsx x1.toInt (RW i3n25.toInt.toNat).toInt; rw [hf52]) (by have e : i3n25.toInt.toNat + 1 = (i3n25.toInt + 1).toNat := (by omega); rw [e, hp95, he94.eq, hf70, hf45, e83]; show _ = _ + jsy x1.toInt (RW i3n25.toInt.toNat).toInt _; rw [hf52]) (by have e : i3n25.toInt.toNat + 1 = (i3n25.toInt + 1).toNat := (by omega); rw [e, hp120, he119.eq, hf108]; show _ = _ + jsz x1.toInt (RW i3n25.toInt.toNat).toInt; rw [hf52]) (fun i hi => ho57 i (by omega)) (fun i hi => ho95 i (by omega)) (fun i hi => ho120 i (by omega))
        refine Jz_iconst 0 dX7_goes_121 (by decide) (fun y121 he121 => ?_)
        refine J_istore dX7_goes_122 rfl (by decide) ?_
        have L124 : ∀ (N : Nat) (i2n124 : Int32) (i4n124 : Int32), (0 ≤ i4n124.toInt ∧ i4n124.toInt ≤ i3n25.toInt + 1) → ((i2n124.toInt = 1 ∧ jav x1.toInt (fun q => (RW q).toInt) i3n25.toInt.toNat ∧ ∀ j : Nat, (j : Int) < i4n124.toInt → ¬ ((G57 j).toInt = (G57 (i3n25.toInt.toNat + 1)).toInt ∧ (G95 j).toInt = (G95 (i3n25.toInt.toNat + 1)).toInt ∧ (G120 j).toInt = (G120 (i3n25.toInt.toNat + 1)).toInt)) ∨ (i2n124.toInt = 0 ∧ ¬ (jav x1.toInt (fun q => (RW q).toInt) i3n25.toInt.toNat ∧ ∀ j : Nat, (j : Int) ≤ i3n25.toInt → ¬ ((G57 j).toInt = (G57 (i3n25.toInt.toNat + 1)).toInt ∧ (G95 j).toInt = (G95 (i3n25.toInt.toNat + 1)).toInt ∧ (G120 j).toInt = (G120 (i3n25.toInt.toNat + 1)).toInt)))) → (300 - i4n124.toInt).toNat < N → J tS mX7_goes d 124 [some (.ref a0), some (.int x1), some (.int i2n124), some (.int i3n25), some (.int i4n124)] [] V120 0 0 (fun r V => (jPost [.inl 18, .inl 19, .inl 20] V0 (fun r _ => ∃ y : Int32, r = some (.int y) ∧ (0 ≤ y.toInt) ∧ (y.toInt ≤ 1) ∧ ((y.toInt = 1 ∧ jav x1.toInt (fun q => (RW q).toInt) n.toInt.toNat) ∨ (y.toInt = 0 ∧ ¬ jav x1.toInt (fun q => (RW q).toInt) n.toInt.toNat)))) r V ∧ (∃ X Y Z : Nat → Int32, V px = some (.inl (18, 121, .inl X)) ∧ V py = some (.inl (19, 121, .inl Y)) ∧ V pz = some (.inl (20, 121, .inl Z)) ∧ jrv x1.toInt (fun q => (RW q).toInt) n.toInt.toNat X Y Z)) := by
          intro N
          induction N with
          | zero => intro i2n124 i4n124  hi4 hin hm; exact absurd hm (Nat.not_lt_zero _)
          | succ N ih =>
            intro i2n124 i4n124  hi4 hin hm
            have ih124 := ih
            have hri4 := j_rng i4n124
            refine J_iload dX7_goes_124 rfl ?_
            refine J_iload_n dX7_goes_126 rfl ?_
            refine Jz_icmp_gt (tgt := 200) jEq.rf jEq.rf dX7_goes_127 (by decide) (fun c127 => ?_) (fun c127 => ?_)
            · refine Jz_iinc 1 dX7_goes_200 rfl rfl (by decide) jEq.rf (by decide) (by omega) (by omega) (fun y200 he200 => ?_)
              refine J_goto (tgt := 25) dX7_goes_203 (by decide) ?_
              refine J.mask [true, true, true, true, false] ?_
              exact ih25 _ i2n124 y200 G57 G95 G120 hW he ha0 hb_rw hb_px hb_py hb_pz hO_a0 hK_a0 hA57 hA95 hA120 ha_RW (by (try simp only [he200.eq, true_and, and_true]) <;> omega) (by rw [he200.eq, show (i3n25.toInt + 1).toNat = i3n25.toInt.toNat + 1 by omega]; exact hjr2) (by rw [he200.eq, show (i3n25.toInt + 1).toNat = i3n25.toInt.toNat + 1 by omega, hjr2.av]; exact hin.imp (fun q => ⟨q.1, q.2.1, fun j hj => q.2.2 j (by omega)⟩) (fun q => ⟨q.1, fun z => q.2 ⟨z.1, fun j hj => z.2 j (by omega)⟩⟩)) (by (try simp only [he200.eq, true_and, and_true]) <;> omega)
            · refine J_iload_n dX7_goes_130 rfl ?_
              refine Jz_if_eq (tgt := 200) jEq.rf dX7_goes_131 (by decide) (fun c131 => ?_) (fun c131 => ?_)
              · refine Jz_iinc 1 dX7_goes_200 rfl rfl (by decide) jEq.rf (by decide) (by omega) (by omega) (fun y200 he200 => ?_)
                refine J_goto (tgt := 25) dX7_goes_203 (by decide) ?_
                refine J.mask [true, true, true, true, false] ?_
                exact ih25 _ i2n124 y200 G57 G95 G120 hW he ha0 hb_rw hb_px hb_py hb_pz hO_a0 hK_a0 hA57 hA95 hA120 ha_RW (by (try simp only [he200.eq, true_and, and_true]) <;> omega) (by rw [he200.eq, show (i3n25.toInt + 1).toNat = i3n25.toInt.toNat + 1 by omega]; exact hjr2) (by rw [he200.eq, show (i3n25.toInt + 1).toNat = i3n25.toInt.toNat + 1 by omega, hjr2.av]; exact hin.imp (fun q => ⟨q.1, q.2.1, fun j hj => q.2.2 j (by omega)⟩) (fun q => ⟨q.1, fun z => q.2 ⟨z.1, fun j hj => z.2 j (by omega)⟩⟩)) (by (try simp only [he200.eq, true_and, and_true]) <;> omega)
              · refine J_aload_n dX7_goes_134 rfl ?_
                refine J_get jf_X7_22 dX7_goes_135 hO_a0 hF_px ?_
                refine J_iload dX7_goes_138 rfl ?_
                refine Jz_iald (r := ((-2147483648), 2147483647)) jEq.rf dX7_goes_140 hA57 rfl hv57 (by omega) (by omega) (fun y140 hf140 hl140 hh140 => ?_)
                dsimp only at hl140 hh140
                clear hl140 hh140
                refine J_aload_n dX7_goes_141 rfl ?_
                refine J_get jf_X7_22 dX7_goes_142 hO_a0 hF_px ?_
                refine J_iload_n dX7_goes_145 rfl ?_
                refine Jz_iconst 1 dX7_goes_146 (by decide) (fun y146 he146 => ?_)
                refine Jz_iadd jEq.rf he146 dX7_goes_147 (by omega) (by omega) (fun y147 he147 => ?_)
                refine Jz_iald (r := ((-2147483648), 2147483647)) he147 dX7_goes_148 hA57 rfl hv57 (by omega) (by omega) (fun y148 hf148 hl148 hh148 => ?_)
                dsimp only at hl148 hh148
                clear hl148 hh148
                have he148 : jEq y148.toInt (y45.toInt + (jsx (x1.toInt) (y52.toInt))) := by rw [← hf148, hp57]; exact he56
                refine Jz_icmp_ne (tgt := 188) jEq.rf he148 dX7_goes_149 (by decide) (fun c149 => ?_) (fun c149 => ?_)
                · refine Jz_iconst 1 dX7_goes_188 (by decide) (fun y188 he188 => ?_)
                  refine J_goto (tgt := 193) dX7_goes_189 (by decide) ?_
                  refine J_istore_n dX7_goes_193 rfl (by decide) ?_
                  refine Jz_iinc 1 dX7_goes_194 rfl rfl (by decide) jEq.rf (by decide) (by omega) (by omega) (fun y194 he194 => ?_)
                  refine J_goto (tgt := 124) dX7_goes_197 (by decide) ?_
                  refine J.mask [true, true, true, true, true] ?_
                  exact ih124  y188 y194  (by (try simp only [he188.eq, he194.eq, true_and, and_true]) <;> omega) (hin.elim (fun z => Or.inl ⟨by rw [he188.eq], z.2.1, fun j hj => by rw [he194.eq] at hj; by_cases h9 : (j : Int) = i4n124.toInt; (have e2 : j = i4n124.toInt.toNat := by omega); subst e2; (intro q; have q2 := q.1; have e : i3n25.toInt.toNat + 1 = (i3n25.toInt + 1).toNat := (by omega); rw [e, hf140, hf148] at q2; exact c149 (q2.trans he148.eq)); exact z.2.2 j (by omega)⟩) (fun z => absurd z.1 c131)) (by (try simp only [he188.eq, he194.eq, true_and, and_true]) <;> omega)
                · refine J_aload_n dX7_goes_152 rfl ?_
                  refine J_get jf_X7_25 dX7_goes_153 hO_a0 hF_py ?_
                  refine J_iload dX7_goes_156 rfl ?_
                  refine Jz_iald (r := ((-2147483648), 2147483647)) jEq.rf dX7_goes_158 hA95 rfl hv95 (by omega) (by omega) (fun y158 hf158 hl158 hh158 => ?_)
                  dsimp only at hl158 hh158
                  clear hl158 hh158
                  refine J_aload_n dX7_goes_159 rfl ?_
                  refine J_get jf_X7_25 dX7_goes_160 hO_a0 hF_py ?_
                  refine J_iload_n dX7_goes_163 rfl ?_
                  refine Jz_iconst 1 dX7_goes_164 (by decide) (fun y164 he164 => ?_)
                  refine Jz_iadd jEq.rf he164 dX7_goes_165 (by omega) (by omega) (fun y165 he165 => ?_)
                  refine Jz_iald (r := ((-2147483648), 2147483647)) he165 dX7_goes_166 hA95 rfl hv95 (by omega) (by omega) (fun y166 hf166 hl166 hh166 => ?_)
                  dsimp only at hl166 hh166
                  clear hl166 hh166
                  have he166 : jEq y166.toInt (y70.toInt + (jsy (x1.toInt) (y52.toInt) (y83.toInt + y70.toInt))) := by rw [← hf166, hp95]; exact he94
                  refine Jz_icmp_ne (tgt := 188) jEq.rf he166 dX7_goes_167 (by decide) (fun c167 => ?_) (fun c167 => ?_)
                  · refine Jz_iconst 1 dX7_goes_188 (by decide) (fun y188 he188 => ?_)
                    refine J_goto (tgt := 193) dX7_goes_189 (by decide) ?_
                    refine J_istore_n dX7_goes_193 rfl (by decide) ?_
                    refine Jz_iinc 1 dX7_goes_194 rfl rfl (by decide) jEq.rf (by decide) (by omega) (by omega) (fun y194 he194 => ?_)
                    refine J_goto (tgt := 124) dX7_goes_197 (by decide) ?_
                    refine J.mask [true, true, true, true, true] ?_
                    exact ih124  y188 y194  (by (try simp only [he188.eq, he194.eq, true_and, and_true]) <;> omega) (hin.elim (fun z => Or.inl ⟨by rw [he188.eq], z.2.1, fun j hj => by rw [he194.eq] at hj; by_cases h9 : (j : Int) = i4n124.toInt; (have e2 : j = i4n124.toInt.toNat := by omega); subst e2; (intro q; have q2 := q.2.1; have e : i3n25.toInt.toNat + 1 = (i3n25.toInt + 1).toNat := (by omega); rw [e, hf158, hf166] at q2; exact c167 (q2.trans he166.eq)); exact z.2.2 j (by omega)⟩) (fun z => absurd z.1 c131)) (by (try simp only [he188.eq, he194.eq, true_and, and_true]) <;> omega)
                  · refine J_aload_n dX7_goes_170 rfl ?_
                    refine J_get jf_X7_28 dX7_goes_171 hO_a0 hF_pz ?_
                    refine J_iload dX7_goes_174 rfl ?_
                    refine Jz_iald (r := ((-2147483648), 2147483647)) jEq.rf dX7_goes_176 hA120 rfl hv120 (by omega) (by omega) (fun y176 hf176 hl176 hh176 => ?_)
                    dsimp only at hl176 hh176
                    clear hl176 hh176
                    refine J_aload_n dX7_goes_177 rfl ?_
                    refine J_get jf_X7_28 dX7_goes_178 hO_a0 hF_pz ?_
                    refine J_iload_n dX7_goes_181 rfl ?_
                    refine Jz_iconst 1 dX7_goes_182 (by decide) (fun y182 he182 => ?_)
                    refine Jz_iadd jEq.rf he182 dX7_goes_183 (by omega) (by omega) (fun y183 he183 => ?_)
                    refine Jz_iald (r := ((-2147483648), 2147483647)) he183 dX7_goes_184 hA120 rfl hv120 (by omega) (by omega) (fun y184 hf184 hl184 hh184 => ?_)
                    dsimp only at hl184 hh184
                    clear hl184 hh184
                    have he184 : jEq y184.toInt (y108.toInt + (jsz (x1.toInt) (y52.toInt))) := by rw [← hf184, hp120]; exact he119
                    refine Jz_icmp_eq (tgt := 192) jEq.rf he184 dX7_goes_185 (by decide) (fun c185 => ?_) (fun c185 => ?_)
                    · refine Jz_iconst 0 dX7_goes_192 (by decide) (fun y192 he192 => ?_)
                      refine J_istore_n dX7_goes_193 rfl (by decide) ?_
                      refine Jz_iinc 1 dX7_goes_194 rfl rfl (by decide) jEq.rf (by decide) (by omega) (by omega) (fun y194 he194 => ?_)
                      refine J_goto (tgt := 124) dX7_goes_197 (by decide) ?_
                      refine J.mask [true, true, true, true, true] ?_
                      exact ih124  y192 y194  (by (try simp only [he192.eq, he194.eq, true_and, and_true]) <;> omega) (Or.inr ⟨by rw [he192.eq], fun hq => hq.2 i4n124.toInt.toNat (by omega) (by have e : i3n25.toInt.toNat + 1 = (i3n25.toInt + 1).toNat := (by omega); rw [e, hf140, hf148, hf158, hf166, hf176, hf184]; exact ⟨c149.trans he148.eq.symm, c167.trans he166.eq.symm, c185.trans he184.eq.symm⟩)⟩) (by (try simp only [he192.eq, he194.eq, true_and, and_true]) <;> omega)
                    · refine Jz_iconst 1 dX7_goes_188 (by decide) (fun y188 he188 => ?_)
                      refine J_goto (tgt := 193) dX7_goes_189 (by decide) ?_
                      refine J_istore_n dX7_goes_193 rfl (by decide) ?_
                      refine Jz_iinc 1 dX7_goes_194 rfl rfl (by decide) jEq.rf (by decide) (by omega) (by omega) (fun y194 he194 => ?_)
                      refine J_goto (tgt := 124) dX7_goes_197 (by decide) ?_
                      refine J.mask [true, true, true, true, true] ?_
                      exact ih124  y188 y194  (by (try simp only [he188.eq, he194.eq, true_and, and_true]) <;> omega) (hin.elim (fun z => Or.inl ⟨by rw [he188.eq], z.2.1, fun j hj => by rw [he194.eq] at hj; by_cases h9 : (j : Int) = i4n124.toInt; (have e2 : j = i4n124.toInt.toNat := by omega); subst e2; (intro q; have q2 := q.2.2; have e : i3n25.toInt.toNat + 1 = (i3n25.toInt + 1).toNat := (by omega); rw [e, hf176, hf184] at q2; exact c185 (q2.trans he184.eq)); exact z.2.2 j (by omega)⟩) (fun z => absurd z.1 c131)) (by (try simp only [he188.eq, he194.eq, true_and, and_true]) <;> omega)
        refine J.mask [true, true, true, true, true] ?_
        exact L124 _  i2n25 y121    (by (try simp only [he121.eq, true_and, and_true]) <;> omega) (hon.imp (fun q => ⟨q.1, q.2, fun j hj => by rw [he121.eq] at hj; omega⟩) (fun q => ⟨q.1, fun z => q.2 z.1⟩)) (Nat.lt_succ_self _)
  refine J.mask [true, true, true, true, false] ?_
  exact L25 _ _ y0 y23 G8 G15 G22 hW he ha0 hb_rw hb_px hb_py hb_pz hO_a0 hK_a0 hA8 hA15 hA22 ha_RW (by (try simp only [he0.eq, he23.eq, true_and, and_true]) <;> omega) (fun i hi => by rw [he23.eq] at hi; rw [show i = Int.toNat 0 by omega, hp8, hp15, hp22, he7.eq, he14.eq, he21.eq]; exact ⟨rfl, rfl, rfl⟩) (Or.inl ⟨he0.eq, by rw [he23.eq]; exact jav.zero⟩) (Nat.lt_succ_self _)
set_option maxRecDepth 100000 in
set_option maxHeartbeats 8000000 in
theorem w_X7_keeps_z {tS : jTS} (d : Nat) (V0 : jH) (a0 : Nat) (x1 : Int32) (n : Int32) (mn : Nat) (sp : Nat) (rw : Nat) (MN : Nat → Int32) (SP : Nat → Int32) (RW : Nat → Int32) (hd : 0 ≤ d) (hW : WT V0) (ha0 : jis V0 (.inr 5) a0) (hf_n : jfI V0 a0 5 5 n) (hr_mn : jfR V0 a0 5 2 mn) (hr_sp : jfR V0 a0 5 3 sp) (hr_rw : jfR V0 a0 5 4 rw) (ha_MN : V0 mn = some (.inl (15, 16, .inl MN))) (ha_SP : V0 sp = some (.inl (16, 960, .inl SP))) (ha_RW : V0 rw = some (.inl (17, 120, .inl RW))) (hp0 : 0 ≤ x1.toInt) (hp1 : x1.toInt ≤ 15) (hp2 : n.toInt ≤ 60) : jTot tS mX7_keeps d [.ref a0, .int x1] V0 0 0 (fun r V => (jPost [.inl 15, .inl 16] V0 rV) r V ∧ (∃ M2 : Nat → Int32, V mn = some (.inl (15, 16, .inl M2)) ∧ M2 x1.toInt.toNat = n ∧ ∀ j : Nat, j ≠ x1.toInt.toNat → M2 j = MN j) ∧ (∃ S2 : Nat → Int32, V sp = some (.inl (16, 960, .inl S2)) ∧ (∀ j : Nat, (j : Int) < n.toInt → S2 (60 * x1.toInt.toNat + j) = RW j) ∧ ∀ q : Nat, q < 60 * x1.toInt.toNat ∨ 60 * x1.toInt.toNat + 60 ≤ q → S2 q = SP q)) := by
  refine jTot.of_J [some (.ref a0), some (.int x1), none] moX7_keeps (Nat.le_of_ble_eq_true rfl) rfl ?_
  have hrx1 := j_rng x1
  have he : jeff [.inl 15, .inl 16] V0 V0 := jeff.refl _ _
  obtain ⟨fs_a0, hO_a0, hK_a0⟩ := WT_obj hW id ha0
  have hF_n := hf_n.get hO_a0
  have hrn : 0 ≤ n.toInt ∧ n.toInt ≤ 120 := jok_rngI hK_a0 rfl hF_n
  have hF_mn := hr_mn.get hO_a0
  obtain ⟨w_mn, hFq_mn, b_mn, hbq_mn, hb_mn⟩ := hK_a0.2 2 (.inr (some (.inl 15))) rfl
  cases hF_mn.symm.trans (hFq_mn.trans (congrArg some hbq_mn))
  have hF_sp := hr_sp.get hO_a0
  obtain ⟨w_sp, hFq_sp, b_sp, hbq_sp, hb_sp⟩ := hK_a0.2 3 (.inr (some (.inl 16))) rfl
  cases hF_sp.symm.trans (hFq_sp.trans (congrArg some hbq_sp))
  have hF_rw := hr_rw.get hO_a0
  obtain ⟨w_rw, hFq_rw, b_rw, hbq_rw, hb_rw⟩ := hK_a0.2 4 (.inr (some (.inl 17))) rfl
  cases hF_rw.symm.trans (hFq_rw.trans (congrArg some hbq_rw))
  obtain ⟨hN_MN, hv_MN⟩ := WT_rngI (r := (0, 60)) hW id rfl ha_MN
  clear hN_MN
  obtain ⟨hN_SP, hv_SP⟩ := WT_rngI (r := ((-2147483648), 2147483647)) hW id rfl ha_SP
  clear hN_SP
  obtain ⟨hN_RW, hv_RW⟩ := WT_rngI (r := ((-2147483648), 2147483647)) hW id rfl ha_RW
  clear hN_RW
  refine J_aload_n dX7_keeps_0 rfl ?_
  refine J_get jf_X7_13 dX7_keeps_1 hO_a0 hF_mn ?_
  refine J_iload_n dX7_keeps_4 rfl ?_
  refine J_aload_n dX7_keeps_5 rfl ?_
  refine J_get jf_X7_109 dX7_keeps_6 hO_a0 hF_n ?_
  refine Jz_iast (r := (0, 60)) jEq.rf jEq.rf hW id dX7_keeps_9 ha_MN rfl rfl (by omega) (by omega) (by omega) (by omega) (fun V9 G9 hW hx9 hA9 hp9 ho9 => ?_)
  obtain ⟨hN9, hv9⟩ := WT_rngI (r := (0, 60)) hW id rfl hA9
  clear hN9
  have he := he.trans (hx9.sub (jsub_of rfl))
  have ha0 := ha0.mono hx9.1
  have hb_mn := hb_mn.mono hx9.1
  have hb_sp := hb_sp.mono hx9.1
  have hb_rw := hb_rw.mono hx9.1
  have hO_a0 := hx9.2 _ _ hO_a0 (jnot_of rfl)
  have hK_a0 := hK_a0.mono hx9.1
  have ha_SP := hx9.2 _ _ ha_SP (jnot_of rfl)
  have ha_RW := hx9.2 _ _ ha_RW (jnot_of rfl)
  refine Jz_iconst 0 dX7_keeps_10 (by decide) (fun y10 he10 => ?_)
  refine J_istore_n dX7_keeps_11 rfl (by decide) ?_
  have L12 : ∀ (N : Nat) (V : jH) (i2n12 : Int32) (F16n12 : Nat → Int32), WT V → jeff [.inl 15, .inl 16] V0 V → (jis V (.inr 5) a0) → (jis V (.inl 15) mn) → (jis V (.inl 16) sp) → (jis V (.inl 17) rw) → (V a0 = some (.inr (5, fs_a0))) → (jokO V (jFs 5) fs_a0) → (V sp = some (.inl (16, 960, .inl F16n12))) → (V mn = some (.inl (15, 16, .inl G9))) → (V rw = some (.inl (17, 120, .inl RW))) → (0 ≤ i2n12.toInt ∧ i2n12.toInt ≤ n.toInt) → (∀ j : Nat, (j : Int) < i2n12.toInt → F16n12 (60 * x1.toInt.toNat + j) = RW j) → (∀ q : Nat, q < 60 * x1.toInt.toNat ∨ 60 * x1.toInt.toNat + 60 ≤ q → F16n12 q = SP q) → (300 - i2n12.toInt).toNat < N → J tS mX7_keeps d 12 [some (.ref a0), some (.int x1), some (.int i2n12)] [] V 0 0 (fun r V => (jPost [.inl 15, .inl 16] V0 rV) r V ∧ (∃ M2 : Nat → Int32, V mn = some (.inl (15, 16, .inl M2)) ∧ M2 x1.toInt.toNat = n ∧ ∀ j : Nat, j ≠ x1.toInt.toNat → M2 j = MN j) ∧ (∃ S2 : Nat → Int32, V sp = some (.inl (16, 960, .inl S2)) ∧ (∀ j : Nat, (j : Int) < n.toInt → S2 (60 * x1.toInt.toNat + j) = RW j) ∧ ∀ q : Nat, q < 60 * x1.toInt.toNat ∨ 60 * x1.toInt.toNat + 60 ≤ q → S2 q = SP q)) := by
    intro N
    induction N with
    | zero => intro V i2n12 F16n12 hW he ha0 hb_mn hb_sp hb_rw hO_a0 hK_a0 hAF16n12 hA9 ha_RW hi2 hr ho hm; exact absurd hm (Nat.not_lt_zero _)
    | succ N ih =>
      intro V i2n12 F16n12 hW he ha0 hb_mn hb_sp hb_rw hO_a0 hK_a0 hAF16n12 hA9 ha_RW hi2 hr ho hm
      have ih12 := ih
      have hri2 := j_rng i2n12
      obtain ⟨hNF16n12, hvF16n12⟩ := WT_rngI (r := ((-2147483648), 2147483647)) hW id rfl hAF16n12
      clear hNF16n12
      refine J_iload_n dX7_keeps_12 rfl ?_
      refine J_aload_n dX7_keeps_13 rfl ?_
      refine J_get jf_X7_109 dX7_keeps_14 hO_a0 hF_n ?_
      refine Jz_icmp_ge (tgt := 43) jEq.rf jEq.rf dX7_keeps_17 (by decide) (fun c17 => ?_) (fun c17 => ?_)
      · exact J_ret (r := none) dX7_keeps_43 ⟨rfl, rfl⟩ (⟨⟨hW, he, rfl⟩, ⟨G9, hA9, hp9, ho9⟩, ⟨F16n12, hAF16n12, fun j hj => hr j (by omega), ho⟩⟩)
      · refine J_aload_n dX7_keeps_20 rfl ?_
        refine J_get jf_X7_16 dX7_keeps_21 hO_a0 hF_sp ?_
        refine Jz_bipush 60 dX7_keeps_24 (by decide) (fun y24 he24 => ?_)
        refine J_iload_n dX7_keeps_26 rfl ?_
        refine Jz_imul he24 jEq.rf dX7_keeps_27 (by omega) (by omega) (fun y27 he27 => ?_)
        refine J_iload_n dX7_keeps_28 rfl ?_
        refine Jz_iadd he27 jEq.rf dX7_keeps_29 (by omega) (by omega) (fun y29 he29 => ?_)
        refine J_aload_n dX7_keeps_30 rfl ?_
        refine J_get jf_X7_19 dX7_keeps_31 hO_a0 hF_rw ?_
        refine J_iload_n dX7_keeps_34 rfl ?_
        refine Jz_iald (r := ((-2147483648), 2147483647)) jEq.rf dX7_keeps_35 ha_RW rfl hv_RW (by omega) (by omega) (fun y35 hf35 hl35 hh35 => ?_)
        dsimp only at hl35 hh35
        clear hl35 hh35
        refine Jz_iast (r := ((-2147483648), 2147483647)) he29 jEq.rf hW id dX7_keeps_36 hAF16n12 rfl rfl (by omega) (by omega) (j_rng _).1 (j_rng _).2 (fun V36 G36 hW hx36 hA36 hp36 ho36 => ?_)
        obtain ⟨hN36, hv36⟩ := WT_rngI (r := ((-2147483648), 2147483647)) hW id rfl hA36
        clear hN36
        have he := he.trans (hx36.sub (jsub_of rfl))
        have ha0 := ha0.mono hx36.1
        have hb_mn := hb_mn.mono hx36.1
        have hb_sp := hb_sp.mono hx36.1
        have hb_rw := hb_rw.mono hx36.1
        have hO_a0 := hx36.2 _ _ hO_a0 (jnot_of rfl)
        have hK_a0 := hK_a0.mono hx36.1
        have hA9 := hx36.2 _ _ hA9 (jnot_of rfl)
        have ha_RW := hx36.2 _ _ ha_RW (jnot_of rfl)
        refine Jz_iinc 1 dX7_keeps_37 rfl rfl (by decide) jEq.rf (by decide) (by omega) (by omega) (fun y37 he37 => ?_)
        refine J_goto (tgt := 12) dX7_keeps_40 (by decide) ?_
        refine J.mask [true, true, true] ?_
        exact ih12 _ y37 G36 hW he ha0 hb_mn hb_sp hb_rw hO_a0 hK_a0 hA36 hA9 ha_RW (by (try simp only [he37.eq, true_and, and_true]) <;> omega) (fun j hj => by rw [he37.eq] at hj; by_cases h9 : (j : Int) = i2n12.toInt; (have e : 60 * x1.toInt.toNat + j = (60 * x1.toInt + i2n12.toInt).toNat := by omega); rw [e, hp36, ← hf35]; exact congrArg RW (by omega); rw [ho36 _ (by omega)]; exact hr j (by omega)) (fun q hq => by rw [ho36 q (by omega)]; exact ho q hq) (by (try simp only [he37.eq, true_and, and_true]) <;> omega)
  refine J.mask [true, true, true] ?_
  exact L12 _ _ y10 SP hW he ha0 hb_mn hb_sp hb_rw hO_a0 hK_a0 ha_SP hA9 ha_RW (by (try simp only [he10.eq, true_and, and_true]) <;> omega) (fun j hj => by rw [he10.eq] at hj; omega) (fun q hq => rfl) (Nat.lt_succ_self _)
set_option maxRecDepth 100000 in
set_option maxHeartbeats 8000000 in
theorem w_X7_isWalk_z {tS : jTS} (d : Nat) (V0 : jH) (a0 : Nat) (x1 : Int32) (v0 : Int32) (hd : 1 ≤ d) (hW : WT V0) (ha0 : jis V0 (.inr 5) a0) (hf_v0 : jfI V0 a0 5 0 v0) : jTot tS mX7_isWalk d [.ref a0, .int x1] V0 0 0 (fun r V => (fun r _ => ∃ y : Int32, r = some (.int y) ∧ (0 ≤ y.toInt) ∧ (y.toInt ≤ 1) ∧ ((y.toInt = 1 ∧ 0 ≤ x1.toInt ∧ x1.toInt < v0.toInt) ∨ (y.toInt = 0 ∧ ¬ (0 ≤ x1.toInt ∧ x1.toInt < v0.toInt)))) r V ∧ V = V0) := by
  refine jTot.of_J [some (.ref a0), some (.int x1)] moX7_isWalk (Nat.le_of_ble_eq_true rfl) rfl ?_
  have hrx1 := j_rng x1
  have he : jeff [] V0 V0 := jeff.refl _ _
  obtain ⟨fs_a0, hO_a0, hK_a0⟩ := WT_obj hW id ha0
  have hF_v0 := hf_v0.get hO_a0
  have hrv0 : 0 ≤ v0.toInt ∧ v0.toInt ≤ 16 := jok_rngI hK_a0 rfl hF_v0
  refine J_iload_n dX7_isWalk_0 rfl ?_
  refine Jz_iconst 0 dX7_isWalk_1 (by decide) (fun y1 he1 => ?_)
  refine J_aload_n dX7_isWalk_2 rfl ?_
  refine J_get jf_X7_102 dX7_isWalk_3 hO_a0 hF_v0 ?_
  refine Jz_iconst 1 dX7_isWalk_6 (by decide) (fun y6 he6 => ?_)
  refine Jz_isub jEq.rf he6 dX7_isWalk_7 (by omega) (by omega) (fun y7 he7 => ?_)
  refine J_callS3 moX7_in jw_ml_X7_105 jw_st_X7_in dX7_isWalk_8 (w_X7_in (d - 1) _ x1 y1 y7 (by omega)   ) (by omega) (Nat.zero_le _) (Nat.zero_le _) (Nat.le_of_ble_eq_true rfl) (fun r8 V8 h8 => ?_)
  obtain ⟨⟨y8, rfl, hl8, hh8, hI8_0, hI8_1⟩, hE8⟩ := h8
  have hE8 := hE8.symm
  subst hE8
  exact J_ret (r := some (.int _)) dX7_isWalk_11 ⟨rfl, _, rfl, (nar_b (by omega) (by omega))⟩ (⟨⟨_, rfl, (by omega), (by omega), (by
    rcases (show y8.toInt = 1 ∨ y8.toInt = 0 by omega) with h | h
    · have q := hI8_0.of h
      (try simp only [he1.eq, he7.eq] at q)
      omega
    · have q := hI8_1.of h
      (try simp only [he1.eq, he7.eq] at q)
      omega)⟩, rfl⟩)
