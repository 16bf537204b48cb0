set_option maxRecDepth 100000 in
set_option maxHeartbeats 8000000 in
theorem w_X7_in {tS : jTS} (d : Nat) (V0 : jH) (x0 : Int32) (x1 : Int32) (x2 : Int32) (hd : 0 ≤ d)   : jTot tS mX7_in d [.int x0, .int x1, .int x2] V0 0 0 (fun r V => (fun r _ => ∃ y : Int32, r = some (.int y) ∧ (0 ≤ y.toInt) ∧ (y.toInt ≤ 1) ∧ (jIf y 1 (x1.toInt ≤ x0.toInt ∧ x0.toInt ≤ x2.toInt)) ∧ (jIf y 0 (¬ (x1.toInt ≤ x0.toInt ∧ x0.toInt ≤ x2.toInt)))) r V ∧ V = V0) := by
  refine jTot.of_J [some (.int x0), some (.int x1), some (.int x2)] moX7_in (Nat.le_of_ble_eq_true rfl) rfl ?_
  have hrx0 := j_rng x0
  have hrx1 := j_rng x1
  have hrx2 := j_rng x2
  refine J_iload_n dX7_in_0 rfl ?_
  refine J_iload_n dX7_in_1 rfl ?_
  refine Jz_icmp_lt (tgt := 14) jEq.rf jEq.rf dX7_in_2 (by decide) (fun c2 => ?_) (fun c2 => ?_)
  · refine Jz_iconst 0 dX7_in_14 (by decide) (fun y14 he14 => ?_)
    exact J_ret (r := some (.int _)) dX7_in_15 ⟨rfl, _, rfl, (nar_b (by (try simp only [he14.eq, true_and, and_true]) <;> omega) (by (try simp only [he14.eq, true_and, and_true]) <;> omega))⟩ (⟨⟨_, rfl, (by (try simp only [he14.eq, true_and, and_true]) <;> omega), (by (try simp only [he14.eq, true_and, and_true]) <;> omega), (fun h => by (try simp only [he14.eq] at h); omega), (fun h => by (try simp only [he14.eq] at h); omega)⟩, rfl⟩)
  · refine J_iload_n dX7_in_5 rfl ?_
    refine J_iload_n dX7_in_6 rfl ?_
    refine Jz_icmp_gt (tgt := 14) jEq.rf jEq.rf dX7_in_7 (by decide) (fun c7 => ?_) (fun c7 => ?_)
    · refine Jz_iconst 0 dX7_in_14 (by decide) (fun y14 he14 => ?_)
      exact J_ret (r := some (.int _)) dX7_in_15 ⟨rfl, _, rfl, (nar_b (by (try simp only [he14.eq, true_and, and_true]) <;> omega) (by (try simp only [he14.eq, true_and, and_true]) <;> omega))⟩ (⟨⟨_, rfl, (by (try simp only [he14.eq, true_and, and_true]) <;> omega), (by (try simp only [he14.eq, true_and, and_true]) <;> omega), (fun h => by (try simp only [he14.eq] at h); omega), (fun h => by (try simp only [he14.eq] at h); omega)⟩, rfl⟩)
    · refine Jz_iconst 1 dX7_in_10 (by decide) (fun y10 he10 => ?_)
      refine J_goto (tgt := 15) dX7_in_11 (by decide) ?_
      exact J_ret (r := some (.int _)) dX7_in_15 ⟨rfl, _, rfl, (nar_b (by (try simp only [he10.eq, true_and, and_true]) <;> omega) (by (try simp only [he10.eq, true_and, and_true]) <;> omega))⟩ (⟨⟨_, rfl, (by (try simp only [he10.eq, true_and, and_true]) <;> omega), (by (try simp only [he10.eq, true_and, and_true]) <;> omega), (fun h => by (try simp only [he10.eq] at h); omega), (fun h => by (try simp only [he10.eq] at h); omega)⟩, rfl⟩)
set_option maxRecDepth 100000 in
set_option maxHeartbeats 8000000 in
theorem w_X7_directions {tS : jTS} (d : Nat) (V0 : jH) (x0 : Int32) (hd : 0 ≤ d)   : jTot tS mX7_directions d [.int x0] V0 0 0 (fun r V => (fun r _ => ∃ y : Int32, r = some (.int y) ∧ (3 ≤ y.toInt) ∧ (y.toInt ≤ 6) ∧ (y.toInt = jdir x0.toInt)) r V ∧ V = V0) := by
  refine jTot.of_J [some (.int x0)] moX7_directions (Nat.le_of_ble_eq_true rfl) rfl ?_
  have hrx0 := j_rng x0
  have hjd := jdir_cases x0.toInt
  refine J_iload_n dX7_directions_0 rfl ?_
  refine Jz_if_ne (tgt := 8) jEq.rf dX7_directions_1 (by decide) (fun c1 => ?_) (fun c1 => ?_)
  · refine J_iload_n dX7_directions_8 rfl ?_
    refine Jz_iconst 2 dX7_directions_9 (by decide) (fun y9 he9 => ?_)
    refine Jz_icmp_ne (tgt := 17) jEq.rf he9 dX7_directions_10 (by decide) (fun c10 => ?_) (fun c10 => ?_)
    · refine Jz_bipush 6 dX7_directions_17 (by decide) (fun y17 he17 => ?_)
      exact J_ret (r := some (.int _)) dX7_directions_19 ⟨rfl, _, rfl, rfl⟩ (⟨⟨_, rfl, (by (try simp only [he17.eq, true_and, and_true]) <;> omega), (by (try simp only [he17.eq, true_and, and_true]) <;> omega), (by (try simp only [he17.eq, true_and, and_true]) <;> omega)⟩, rfl⟩)
    · refine Jz_iconst 3 dX7_directions_13 (by decide) (fun y13 he13 => ?_)
      refine J_goto (tgt := 19) dX7_directions_14 (by decide) ?_
      exact J_ret (r := some (.int _)) dX7_directions_19 ⟨rfl, _, rfl, rfl⟩ (⟨⟨_, rfl, (by (try simp only [he13.eq, true_and, and_true]) <;> omega), (by (try simp only [he13.eq, true_and, and_true]) <;> omega), (by (try simp only [he13.eq, true_and, and_true]) <;> omega)⟩, rfl⟩)
  · refine Jz_iconst 4 dX7_directions_4 (by decide) (fun y4 he4 => ?_)
    refine J_goto (tgt := 19) dX7_directions_5 (by decide) ?_
    exact J_ret (r := some (.int _)) dX7_directions_19 ⟨rfl, _, rfl, rfl⟩ (⟨⟨_, rfl, (by (try simp only [he4.eq, true_and, and_true]) <;> omega), (by (try simp only [he4.eq, true_and, and_true]) <;> omega), (by (try simp only [he4.eq, true_and, and_true]) <;> omega)⟩, rfl⟩)
set_option maxRecDepth 100000 in
set_option maxHeartbeats 8000000 in
theorem w_X7_turns {tS : jTS} (d : Nat) (V0 : jH) (x0 : Int32) (hd : 0 ≤ d)   : jTot tS mX7_turns d [.int x0] V0 0 0 (fun r V => (fun r _ => ∃ y : Int32, r = some (.int y) ∧ (0 ≤ y.toInt) ∧ (y.toInt ≤ 48) ∧ (y.toInt = jtur x0.toInt)) r V ∧ V = V0) := by
  refine jTot.of_J [some (.int x0)] moX7_turns (Nat.le_of_ble_eq_true rfl) rfl ?_
  have hrx0 := j_rng x0
  have hjt := jtur_cases x0.toInt
  refine J_iload_n dX7_turns_0 rfl ?_
  refine Jz_if_ne (tgt := 9) jEq.rf dX7_turns_1 (by decide) (fun c1 => ?_) (fun c1 => ?_)
  · refine J_iload_n dX7_turns_9 rfl ?_
    refine Jz_iconst 1 dX7_turns_10 (by decide) (fun y10 he10 => ?_)
    refine Jz_icmp_ne (tgt := 19) jEq.rf he10 dX7_turns_11 (by decide) (fun c11 => ?_) (fun c11 => ?_)
    · refine J_iload_n dX7_turns_19 rfl ?_
      refine Jz_iconst 3 dX7_turns_20 (by decide) (fun y20 he20 => ?_)
      refine Jz_icmp_ne (tgt := 29) jEq.rf he20 dX7_turns_21 (by decide) (fun c21 => ?_) (fun c21 => ?_)
      · refine Jz_iconst 0 dX7_turns_29 (by decide) (fun y29 he29 => ?_)
        exact J_ret (r := some (.int _)) dX7_turns_30 ⟨rfl, _, rfl, rfl⟩ (⟨⟨_, rfl, (by (try simp only [he29.eq, true_and, and_true]) <;> omega), (by (try simp only [he29.eq, true_and, and_true]) <;> omega), (by (try simp only [he29.eq, true_and, and_true]) <;> omega)⟩, rfl⟩)
      · refine Jz_bipush 48 dX7_turns_24 (by decide) (fun y24 he24 => ?_)
        refine J_goto (tgt := 30) dX7_turns_26 (by decide) ?_
        exact J_ret (r := some (.int _)) dX7_turns_30 ⟨rfl, _, rfl, rfl⟩ (⟨⟨_, rfl, (by (try simp only [he24.eq, true_and, and_true]) <;> omega), (by (try simp only [he24.eq, true_and, and_true]) <;> omega), (by (try simp only [he24.eq, true_and, and_true]) <;> omega)⟩, rfl⟩)
    · refine Jz_bipush 12 dX7_turns_14 (by decide) (fun y14 he14 => ?_)
      refine J_goto (tgt := 30) dX7_turns_16 (by decide) ?_
      exact J_ret (r := some (.int _)) dX7_turns_30 ⟨rfl, _, rfl, rfl⟩ (⟨⟨_, rfl, (by (try simp only [he14.eq, true_and, and_true]) <;> omega), (by (try simp only [he14.eq, true_and, and_true]) <;> omega), (by (try simp only [he14.eq, true_and, and_true]) <;> omega)⟩, rfl⟩)
  · refine Jz_bipush 8 dX7_turns_4 (by decide) (fun y4 he4 => ?_)
    refine J_goto (tgt := 30) dX7_turns_6 (by decide) ?_
    exact J_ret (r := some (.int _)) dX7_turns_30 ⟨rfl, _, rfl, rfl⟩ (⟨⟨_, rfl, (by (try simp only [he4.eq, true_and, and_true]) <;> omega), (by (try simp only [he4.eq, true_and, and_true]) <;> omega), (by (try simp only [he4.eq, true_and, and_true]) <;> omega)⟩, rfl⟩)
set_option maxRecDepth 100000 in
set_option maxHeartbeats 8000000 in
theorem w_X7_stepX {tS : jTS} (d : Nat) (V0 : jH) (x0 : Int32) (x1 : Int32) (hd : 0 ≤ d)   : jTot tS mX7_stepX d [.int x0, .int x1] V0 0 0 (fun r V => (fun r _ => ∃ y : Int32, r = some (.int y) ∧ ((-1) ≤ y.toInt) ∧ (y.toInt ≤ 1)) r V ∧ V = V0) := by
  refine jTot.of_J [some (.int x0), some (.int x1)] moX7_stepX (Nat.le_of_ble_eq_true rfl) rfl ?_
  have hrx0 := j_rng x0
  have hrx1 := j_rng x1
  refine J_iload_n dX7_stepX_0 rfl ?_
  rcases jsw2 x0 with hx1 | hx1 | hx1 | hx1 | hx1
  · have hx1t : x0.toInt = 0 := by rw [hx1]; rfl
    clear hx1
    refine J_tableIn (tgt := 28) dX7_stepX_1 (by omega) (by omega) (by rw [hx1t]; rfl) (by decide) ?_
    refine J_iload_n dX7_stepX_28 rfl ?_
    refine Jz_if_ne (tgt := 36) jEq.rf dX7_stepX_29 (by decide) (fun c29 => ?_) (fun c29 => ?_)
    · refine J_iload_n dX7_stepX_36 rfl ?_
      refine Jz_iconst 2 dX7_stepX_37 (by decide) (fun y37 he37 => ?_)
      refine Jz_icmp_ne (tgt := 45) jEq.rf he37 dX7_stepX_38 (by decide) (fun c38 => ?_) (fun c38 => ?_)
      · refine Jz_iconst 0 dX7_stepX_45 (by decide) (fun y45 he45 => ?_)
        exact J_ret (r := some (.int _)) dX7_stepX_46 ⟨rfl, _, rfl, rfl⟩ (⟨⟨_, rfl, (by (try simp only [he45.eq, true_and, and_true]) <;> omega), (by (try simp only [he45.eq, true_and, and_true]) <;> omega)⟩, rfl⟩)
      · refine Jz_iconst (-1) dX7_stepX_41 (by decide) (fun y41 he41 => ?_)
        refine J_goto (tgt := 46) dX7_stepX_42 (by decide) ?_
        exact J_ret (r := some (.int _)) dX7_stepX_46 ⟨rfl, _, rfl, rfl⟩ (⟨⟨_, rfl, (by (try simp only [he41.eq, true_and, and_true]) <;> omega), (by (try simp only [he41.eq, true_and, and_true]) <;> omega)⟩, rfl⟩)
    · refine Jz_iconst 1 dX7_stepX_32 (by decide) (fun y32 he32 => ?_)
      refine J_goto (tgt := 46) dX7_stepX_33 (by decide) ?_
      exact J_ret (r := some (.int _)) dX7_stepX_46 ⟨rfl, _, rfl, rfl⟩ (⟨⟨_, rfl, (by (try simp only [he32.eq, true_and, and_true]) <;> omega), (by (try simp only [he32.eq, true_and, and_true]) <;> omega)⟩, rfl⟩)
  · have hx1t : x0.toInt = 1 := by rw [hx1]; rfl
    clear hx1
    refine J_tableIn (tgt := 47) dX7_stepX_1 (by omega) (by omega) (by rw [hx1t]; rfl) (by decide) ?_
    refine J_iload_n dX7_stepX_47 rfl ?_
    refine Jz_if_eq (tgt := 56) jEq.rf dX7_stepX_48 (by decide) (fun c48 => ?_) (fun c48 => ?_)
    · refine Jz_iconst 1 dX7_stepX_56 (by decide) (fun y56 he56 => ?_)
      refine J_goto (tgt := 75) dX7_stepX_57 (by decide) ?_
      exact J_ret (r := some (.int _)) dX7_stepX_75 ⟨rfl, _, rfl, rfl⟩ (⟨⟨_, rfl, (by (try simp only [he56.eq, true_and, and_true]) <;> omega), (by (try simp only [he56.eq, true_and, and_true]) <;> omega)⟩, rfl⟩)
    · refine J_iload_n dX7_stepX_51 rfl ?_
      refine Jz_iconst 5 dX7_stepX_52 (by decide) (fun y52 he52 => ?_)
      refine Jz_icmp_ne (tgt := 60) jEq.rf he52 dX7_stepX_53 (by decide) (fun c53 => ?_) (fun c53 => ?_)
      · refine J_iload_n dX7_stepX_60 rfl ?_
        refine Jz_iconst 2 dX7_stepX_61 (by decide) (fun y61 he61 => ?_)
        refine Jz_icmp_eq (tgt := 70) jEq.rf he61 dX7_stepX_62 (by decide) (fun c62 => ?_) (fun c62 => ?_)
        · refine Jz_iconst (-1) dX7_stepX_70 (by decide) (fun y70 he70 => ?_)
          refine J_goto (tgt := 75) dX7_stepX_71 (by decide) ?_
          exact J_ret (r := some (.int _)) dX7_stepX_75 ⟨rfl, _, rfl, rfl⟩ (⟨⟨_, rfl, (by (try simp only [he70.eq, true_and, and_true]) <;> omega), (by (try simp only [he70.eq, true_and, and_true]) <;> omega)⟩, rfl⟩)
        · refine J_iload_n dX7_stepX_65 rfl ?_
          refine Jz_iconst 3 dX7_stepX_66 (by decide) (fun y66 he66 => ?_)
          refine Jz_icmp_ne (tgt := 74) jEq.rf he66 dX7_stepX_67 (by decide) (fun c67 => ?_) (fun c67 => ?_)
          · refine Jz_iconst 0 dX7_stepX_74 (by decide) (fun y74 he74 => ?_)
            exact J_ret (r := some (.int _)) dX7_stepX_75 ⟨rfl, _, rfl, rfl⟩ (⟨⟨_, rfl, (by (try simp only [he74.eq, true_and, and_true]) <;> omega), (by (try simp only [he74.eq, true_and, and_true]) <;> omega)⟩, rfl⟩)
          · refine Jz_iconst (-1) dX7_stepX_70 (by decide) (fun y70 he70 => ?_)
            refine J_goto (tgt := 75) dX7_stepX_71 (by decide) ?_
            exact J_ret (r := some (.int _)) dX7_stepX_75 ⟨rfl, _, rfl, rfl⟩ (⟨⟨_, rfl, (by (try simp only [he70.eq, true_and, and_true]) <;> omega), (by (try simp only [he70.eq, true_and, and_true]) <;> omega)⟩, rfl⟩)
      · refine Jz_iconst 1 dX7_stepX_56 (by decide) (fun y56 he56 => ?_)
        refine J_goto (tgt := 75) dX7_stepX_57 (by decide) ?_
        exact J_ret (r := some (.int _)) dX7_stepX_75 ⟨rfl, _, rfl, rfl⟩ (⟨⟨_, rfl, (by (try simp only [he56.eq, true_and, and_true]) <;> omega), (by (try simp only [he56.eq, true_and, and_true]) <;> omega)⟩, rfl⟩)
  · have hx1t : x0.toInt = 2 := by rw [hx1]; rfl
    clear hx1
    refine J_tableIn (tgt := 76) dX7_stepX_1 (by omega) (by omega) (by rw [hx1t]; rfl) (by decide) ?_
    refine J_iload_n dX7_stepX_76 rfl ?_
    refine Jz_if_ne (tgt := 84) jEq.rf dX7_stepX_77 (by decide) (fun c77 => ?_) (fun c77 => ?_)
    · refine J_iload_n dX7_stepX_84 rfl ?_
      refine Jz_iconst 1 dX7_stepX_85 (by decide) (fun y85 he85 => ?_)
      refine Jz_icmp_ne (tgt := 93) jEq.rf he85 dX7_stepX_86 (by decide) (fun c86 => ?_) (fun c86 => ?_)
      · refine Jz_iconst 0 dX7_stepX_93 (by decide) (fun y93 he93 => ?_)
        exact J_ret (r := some (.int _)) dX7_stepX_94 ⟨rfl, _, rfl, rfl⟩ (⟨⟨_, rfl, (by (try simp only [he93.eq, true_and, and_true]) <;> omega), (by (try simp only [he93.eq, true_and, and_true]) <;> omega)⟩, rfl⟩)
      · refine Jz_iconst (-1) dX7_stepX_89 (by decide) (fun y89 he89 => ?_)
        refine J_goto (tgt := 94) dX7_stepX_90 (by decide) ?_
        exact J_ret (r := some (.int _)) dX7_stepX_94 ⟨rfl, _, rfl, rfl⟩ (⟨⟨_, rfl, (by (try simp only [he89.eq, true_and, and_true]) <;> omega), (by (try simp only [he89.eq, true_and, and_true]) <;> omega)⟩, rfl⟩)
    · refine Jz_iconst 1 dX7_stepX_80 (by decide) (fun y80 he80 => ?_)
      refine J_goto (tgt := 94) dX7_stepX_81 (by decide) ?_
      exact J_ret (r := some (.int _)) dX7_stepX_94 ⟨rfl, _, rfl, rfl⟩ (⟨⟨_, rfl, (by (try simp only [he80.eq, true_and, and_true]) <;> omega), (by (try simp only [he80.eq, true_and, and_true]) <;> omega)⟩, rfl⟩)
  · refine J_tableOut (tgt := 95) dX7_stepX_1 (Or.inl hx1) (by decide) ?_
    refine J_iload_n dX7_stepX_95 rfl ?_
    refine Jz_if_ne (tgt := 103) jEq.rf dX7_stepX_96 (by decide) (fun c96 => ?_) (fun c96 => ?_)
    · refine J_iload_n dX7_stepX_103 rfl ?_
      refine Jz_iconst 3 dX7_stepX_104 (by decide) (fun y104 he104 => ?_)
      refine Jz_icmp_ne (tgt := 112) jEq.rf he104 dX7_stepX_105 (by decide) (fun c105 => ?_) (fun c105 => ?_)
      · refine Jz_iconst 0 dX7_stepX_112 (by decide) (fun y112 he112 => ?_)
        exact J_ret (r := some (.int _)) dX7_stepX_113 ⟨rfl, _, rfl, rfl⟩ (⟨⟨_, rfl, (by (try simp only [he112.eq, true_and, and_true]) <;> omega), (by (try simp only [he112.eq, true_and, and_true]) <;> omega)⟩, rfl⟩)
      · refine Jz_iconst (-1) dX7_stepX_108 (by decide) (fun y108 he108 => ?_)
        refine J_goto (tgt := 113) dX7_stepX_109 (by decide) ?_
        exact J_ret (r := some (.int _)) dX7_stepX_113 ⟨rfl, _, rfl, rfl⟩ (⟨⟨_, rfl, (by (try simp only [he108.eq, true_and, and_true]) <;> omega), (by (try simp only [he108.eq, true_and, and_true]) <;> omega)⟩, rfl⟩)
    · refine Jz_iconst 1 dX7_stepX_99 (by decide) (fun y99 he99 => ?_)
      refine J_goto (tgt := 113) dX7_stepX_100 (by decide) ?_
      exact J_ret (r := some (.int _)) dX7_stepX_113 ⟨rfl, _, rfl, rfl⟩ (⟨⟨_, rfl, (by (try simp only [he99.eq, true_and, and_true]) <;> omega), (by (try simp only [he99.eq, true_and, and_true]) <;> omega)⟩, rfl⟩)
  · refine J_tableOut (tgt := 95) dX7_stepX_1 (Or.inr hx1) (by decide) ?_
    refine J_iload_n dX7_stepX_95 rfl ?_
    refine Jz_if_ne (tgt := 103) jEq.rf dX7_stepX_96 (by decide) (fun c96 => ?_) (fun c96 => ?_)
    · refine J_iload_n dX7_stepX_103 rfl ?_
      refine Jz_iconst 3 dX7_stepX_104 (by decide) (fun y104 he104 => ?_)
      refine Jz_icmp_ne (tgt := 112) jEq.rf he104 dX7_stepX_105 (by decide) (fun c105 => ?_) (fun c105 => ?_)
      · refine Jz_iconst 0 dX7_stepX_112 (by decide) (fun y112 he112 => ?_)
        exact J_ret (r := some (.int _)) dX7_stepX_113 ⟨rfl, _, rfl, rfl⟩ (⟨⟨_, rfl, (by (try simp only [he112.eq, true_and, and_true]) <;> omega), (by (try simp only [he112.eq, true_and, and_true]) <;> omega)⟩, rfl⟩)
      · refine Jz_iconst (-1) dX7_stepX_108 (by decide) (fun y108 he108 => ?_)
        refine J_goto (tgt := 113) dX7_stepX_109 (by decide) ?_
        exact J_ret (r := some (.int _)) dX7_stepX_113 ⟨rfl, _, rfl, rfl⟩ (⟨⟨_, rfl, (by (try simp only [he108.eq, true_and, and_true]) <;> omega), (by (try simp only [he108.eq, true_and, and_true]) <;> omega)⟩, rfl⟩)
    · refine Jz_iconst 1 dX7_stepX_99 (by decide) (fun y99 he99 => ?_)
      refine J_goto (tgt := 113) dX7_stepX_100 (by decide) ?_
      exact J_ret (r := some (.int _)) dX7_stepX_113 ⟨rfl, _, rfl, rfl⟩ (⟨⟨_, rfl, (by (try simp only [he99.eq, true_and, and_true]) <;> omega), (by (try simp only [he99.eq, true_and, and_true]) <;> omega)⟩, rfl⟩)
set_option maxRecDepth 100000 in
set_option maxHeartbeats 8000000 in
theorem w_X7_stepY {tS : jTS} (d : Nat) (V0 : jH) (x0 : Int32) (x1 : Int32) (x2 : Int32) (hd : 0 ≤ d)   : jTot tS mX7_stepY d [.int x0, .int x1, .int x2] V0 0 0 (fun r V => (fun r _ => ∃ y : Int32, r = some (.int y) ∧ ((-1) ≤ y.toInt) ∧ (y.toInt ≤ 1)) r V ∧ V = V0) := by
  refine jTot.of_J [some (.int x0), some (.int x1), some (.int x2)] moX7_stepY (Nat.le_of_ble_eq_true rfl) rfl ?_
  have hrx0 := j_rng x0
  have hrx1 := j_rng x1
  have hrx2 := j_rng x2
  refine J_iload_n dX7_stepY_0 rfl ?_
  rcases jsw2 x0 with hx1 | hx1 | hx1 | hx1 | hx1
  · have hx1t : x0.toInt = 0 := by rw [hx1]; rfl
    clear hx1
    refine J_tableIn (tgt := 28) dX7_stepY_1 (by omega) (by omega) (by rw [hx1t]; rfl) (by decide) ?_
    refine J_iload_n dX7_stepY_28 rfl ?_
    refine Jz_iconst 1 dX7_stepY_29 (by decide) (fun y29 he29 => ?_)
    refine Jz_icmp_ne (tgt := 37) jEq.rf he29 dX7_stepY_30 (by decide) (fun c30 => ?_) (fun c30 => ?_)
    · refine J_iload_n dX7_stepY_37 rfl ?_
      refine Jz_iconst 3 dX7_stepY_38 (by decide) (fun y38 he38 => ?_)
      refine Jz_icmp_ne (tgt := 46) jEq.rf he38 dX7_stepY_39 (by decide) (fun c39 => ?_) (fun c39 => ?_)
      · refine Jz_iconst 0 dX7_stepY_46 (by decide) (fun y46 he46 => ?_)
        exact J_ret (r := some (.int _)) dX7_stepY_47 ⟨rfl, _, rfl, rfl⟩ (⟨⟨_, rfl, (by (try simp only [he46.eq, true_and, and_true]) <;> omega), (by (try simp only [he46.eq, true_and, and_true]) <;> omega)⟩, rfl⟩)
      · refine Jz_iconst (-1) dX7_stepY_42 (by decide) (fun y42 he42 => ?_)
        refine J_goto (tgt := 47) dX7_stepY_43 (by decide) ?_
        exact J_ret (r := some (.int _)) dX7_stepY_47 ⟨rfl, _, rfl, rfl⟩ (⟨⟨_, rfl, (by (try simp only [he42.eq, true_and, and_true]) <;> omega), (by (try simp only [he42.eq, true_and, and_true]) <;> omega)⟩, rfl⟩)
    · refine Jz_iconst 1 dX7_stepY_33 (by decide) (fun y33 he33 => ?_)
      refine J_goto (tgt := 47) dX7_stepY_34 (by decide) ?_
      exact J_ret (r := some (.int _)) dX7_stepY_47 ⟨rfl, _, rfl, rfl⟩ (⟨⟨_, rfl, (by (try simp only [he33.eq, true_and, and_true]) <;> omega), (by (try simp only [he33.eq, true_and, and_true]) <;> omega)⟩, rfl⟩)
  · have hx1t : x0.toInt = 1 := by rw [hx1]; rfl
    clear hx1
    refine J_tableIn (tgt := 48) dX7_stepY_1 (by omega) (by omega) (by rw [hx1t]; rfl) (by decide) ?_
    refine J_iload_n dX7_stepY_48 rfl ?_
    refine Jz_iconst 1 dX7_stepY_49 (by decide) (fun y49 he49 => ?_)
    refine Jz_icmp_eq (tgt := 58) jEq.rf he49 dX7_stepY_50 (by decide) (fun c50 => ?_) (fun c50 => ?_)
    · refine Jz_iconst 1 dX7_stepY_58 (by decide) (fun y58 he58 => ?_)
      refine J_goto (tgt := 77) dX7_stepY_59 (by decide) ?_
      exact J_ret (r := some (.int _)) dX7_stepY_77 ⟨rfl, _, rfl, rfl⟩ (⟨⟨_, rfl, (by (try simp only [he58.eq, true_and, and_true]) <;> omega), (by (try simp only [he58.eq, true_and, and_true]) <;> omega)⟩, rfl⟩)
    · refine J_iload_n dX7_stepY_53 rfl ?_
      refine Jz_iconst 2 dX7_stepY_54 (by decide) (fun y54 he54 => ?_)
      refine Jz_icmp_ne (tgt := 62) jEq.rf he54 dX7_stepY_55 (by decide) (fun c55 => ?_) (fun c55 => ?_)
      · refine J_iload_n dX7_stepY_62 rfl ?_
        refine Jz_iconst 4 dX7_stepY_63 (by decide) (fun y63 he63 => ?_)
        refine Jz_icmp_eq (tgt := 72) jEq.rf he63 dX7_stepY_64 (by decide) (fun c64 => ?_) (fun c64 => ?_)
        · refine Jz_iconst (-1) dX7_stepY_72 (by decide) (fun y72 he72 => ?_)
          refine J_goto (tgt := 77) dX7_stepY_73 (by decide) ?_
          exact J_ret (r := some (.int _)) dX7_stepY_77 ⟨rfl, _, rfl, rfl⟩ (⟨⟨_, rfl, (by (try simp only [he72.eq, true_and, and_true]) <;> omega), (by (try simp only [he72.eq, true_and, and_true]) <;> omega)⟩, rfl⟩)
        · refine J_iload_n dX7_stepY_67 rfl ?_
          refine Jz_iconst 5 dX7_stepY_68 (by decide) (fun y68 he68 => ?_)
          refine Jz_icmp_ne (tgt := 76) jEq.rf he68 dX7_stepY_69 (by decide) (fun c69 => ?_) (fun c69 => ?_)
          · refine Jz_iconst 0 dX7_stepY_76 (by decide) (fun y76 he76 => ?_)
            exact J_ret (r := some (.int _)) dX7_stepY_77 ⟨rfl, _, rfl, rfl⟩ (⟨⟨_, rfl, (by (try simp only [he76.eq, true_and, and_true]) <;> omega), (by (try simp only [he76.eq, true_and, and_true]) <;> omega)⟩, rfl⟩)
          · refine Jz_iconst (-1) dX7_stepY_72 (by decide) (fun y72 he72 => ?_)
            refine J_goto (tgt := 77) dX7_stepY_73 (by decide) ?_
            exact J_ret (r := some (.int _)) dX7_stepY_77 ⟨rfl, _, rfl, rfl⟩ (⟨⟨_, rfl, (by (try simp only [he72.eq, true_and, and_true]) <;> omega), (by (try simp only [he72.eq, true_and, and_true]) <;> omega)⟩, rfl⟩)
      · refine Jz_iconst 1 dX7_stepY_58 (by decide) (fun y58 he58 => ?_)
        refine J_goto (tgt := 77) dX7_stepY_59 (by decide) ?_
        exact J_ret (r := some (.int _)) dX7_stepY_77 ⟨rfl, _, rfl, rfl⟩ (⟨⟨_, rfl, (by (try simp only [he58.eq, true_and, and_true]) <;> omega), (by (try simp only [he58.eq, true_and, and_true]) <;> omega)⟩, rfl⟩)
  · have hx1t : x0.toInt = 2 := by rw [hx1]; rfl
    clear hx1
    refine J_tableIn (tgt := 78) dX7_stepY_1 (by omega) (by omega) (by rw [hx1t]; rfl) (by decide) ?_
    refine J_iload_n dX7_stepY_78 rfl ?_
    refine Jz_iconst 2 dX7_stepY_79 (by decide) (fun y79 he79 => ?_)
    refine Jz_icmp_ge (tgt := 87) jEq.rf he79 dX7_stepY_80 (by decide) (fun c80 => ?_) (fun c80 => ?_)
    · refine J_iload_n dX7_stepY_87 rfl ?_
      refine Jz_iconst 1 dX7_stepY_88 (by decide) (fun y88 he88 => ?_)
      refine Jz_iandw dX7_stepY_89 (fun y89  => ?_)
      refine Jz_if_ne (tgt := 97) jEq.rf dX7_stepY_90 (by decide) (fun c90 => ?_) (fun c90 => ?_)
      · refine Jz_iconst (-1) dX7_stepY_97 (by decide) (fun y97 he97 => ?_)
        exact J_ret (r := some (.int _)) dX7_stepY_98 ⟨rfl, _, rfl, rfl⟩ (⟨⟨_, rfl, (by (try simp only [he97.eq, true_and, and_true]) <;> omega), (by (try simp only [he97.eq, true_and, and_true]) <;> omega)⟩, rfl⟩)
      · refine Jz_iconst 1 dX7_stepY_93 (by decide) (fun y93 he93 => ?_)
        refine J_goto (tgt := 98) dX7_stepY_94 (by decide) ?_
        exact J_ret (r := some (.int _)) dX7_stepY_98 ⟨rfl, _, rfl, rfl⟩ (⟨⟨_, rfl, (by (try simp only [he93.eq, true_and, and_true]) <;> omega), (by (try simp only [he93.eq, true_and, and_true]) <;> omega)⟩, rfl⟩)
    · refine Jz_iconst 0 dX7_stepY_83 (by decide) (fun y83 he83 => ?_)
      refine J_goto (tgt := 98) dX7_stepY_84 (by decide) ?_
      exact J_ret (r := some (.int _)) dX7_stepY_98 ⟨rfl, _, rfl, rfl⟩ (⟨⟨_, rfl, (by (try simp only [he83.eq, true_and, and_true]) <;> omega), (by (try simp only [he83.eq, true_and, and_true]) <;> omega)⟩, rfl⟩)
  · refine J_tableOut (tgt := 99) dX7_stepY_1 (Or.inl hx1) (by decide) ?_
    refine J_iload_n dX7_stepY_99 rfl ?_
    refine Jz_iconst 1 dX7_stepY_100 (by decide) (fun y100 he100 => ?_)
    refine Jz_icmp_ne (tgt := 108) jEq.rf he100 dX7_stepY_101 (by decide) (fun c101 => ?_) (fun c101 => ?_)
    · refine J_iload_n dX7_stepY_108 rfl ?_
      refine Jz_iconst 4 dX7_stepY_109 (by decide) (fun y109 he109 => ?_)
      refine Jz_icmp_ne (tgt := 117) jEq.rf he109 dX7_stepY_110 (by decide) (fun c110 => ?_) (fun c110 => ?_)
      · refine Jz_iconst 0 dX7_stepY_117 (by decide) (fun y117 he117 => ?_)
        exact J_ret (r := some (.int _)) dX7_stepY_118 ⟨rfl, _, rfl, rfl⟩ (⟨⟨_, rfl, (by (try simp only [he117.eq, true_and, and_true]) <;> omega), (by (try simp only [he117.eq, true_and, and_true]) <;> omega)⟩, rfl⟩)
      · refine Jz_iconst (-1) dX7_stepY_113 (by decide) (fun y113 he113 => ?_)
        refine J_goto (tgt := 118) dX7_stepY_114 (by decide) ?_
        exact J_ret (r := some (.int _)) dX7_stepY_118 ⟨rfl, _, rfl, rfl⟩ (⟨⟨_, rfl, (by (try simp only [he113.eq, true_and, and_true]) <;> omega), (by (try simp only [he113.eq, true_and, and_true]) <;> omega)⟩, rfl⟩)
    · refine Jz_iconst 1 dX7_stepY_104 (by decide) (fun y104 he104 => ?_)
      refine J_goto (tgt := 118) dX7_stepY_105 (by decide) ?_
      exact J_ret (r := some (.int _)) dX7_stepY_118 ⟨rfl, _, rfl, rfl⟩ (⟨⟨_, rfl, (by (try simp only [he104.eq, true_and, and_true]) <;> omega), (by (try simp only [he104.eq, true_and, and_true]) <;> omega)⟩, rfl⟩)
  · refine J_tableOut (tgt := 99) dX7_stepY_1 (Or.inr hx1) (by decide) ?_
    refine J_iload_n dX7_stepY_99 rfl ?_
    refine Jz_iconst 1 dX7_stepY_100 (by decide) (fun y100 he100 => ?_)
    refine Jz_icmp_ne (tgt := 108) jEq.rf he100 dX7_stepY_101 (by decide) (fun c101 => ?_) (fun c101 => ?_)
    · refine J_iload_n dX7_stepY_108 rfl ?_
      refine Jz_iconst 4 dX7_stepY_109 (by decide) (fun y109 he109 => ?_)
      refine Jz_icmp_ne (tgt := 117) jEq.rf he109 dX7_stepY_110 (by decide) (fun c110 => ?_) (fun c110 => ?_)
      · refine Jz_iconst 0 dX7_stepY_117 (by decide) (fun y117 he117 => ?_)
        exact J_ret (r := some (.int _)) dX7_stepY_118 ⟨rfl, _, rfl, rfl⟩ (⟨⟨_, rfl, (by (try simp only [he117.eq, true_and, and_true]) <;> omega), (by (try simp only [he117.eq, true_and, and_true]) <;> omega)⟩, rfl⟩)
      · refine Jz_iconst (-1) dX7_stepY_113 (by decide) (fun y113 he113 => ?_)
        refine J_goto (tgt := 118) dX7_stepY_114 (by decide) ?_
        exact J_ret (r := some (.int _)) dX7_stepY_118 ⟨rfl, _, rfl, rfl⟩ (⟨⟨_, rfl, (by (try simp only [he113.eq, true_and, and_true]) <;> omega), (by (try simp only [he113.eq, true_and, and_true]) <;> omega)⟩, rfl⟩)
    · refine Jz_iconst 1 dX7_stepY_104 (by decide) (fun y104 he104 => ?_)
      refine J_goto (tgt := 118) dX7_stepY_105 (by decide) ?_
      exact J_ret (r := some (.int _)) dX7_stepY_118 ⟨rfl, _, rfl, rfl⟩ (⟨⟨_, rfl, (by (try simp only [he104.eq, true_and, and_true]) <;> omega), (by (try simp only [he104.eq, true_and, and_true]) <;> omega)⟩, rfl⟩)
set_option maxRecDepth 100000 in
set_option maxHeartbeats 8000000 in
theorem w_X7_stepZ {tS : jTS} (d : Nat) (V0 : jH) (x0 : Int32) (x1 : Int32) (hd : 0 ≤ d)   : jTot tS mX7_stepZ d [.int x0, .int x1] V0 0 0 (fun r V => (fun r _ => ∃ y : Int32, r = some (.int y) ∧ ((-1) ≤ y.toInt) ∧ (y.toInt ≤ 1)) r V ∧ V = V0) := by
  refine jTot.of_J [some (.int x0), some (.int x1)] moX7_stepZ (Nat.le_of_ble_eq_true rfl) rfl ?_
  have hrx0 := j_rng x0
  have hrx1 := j_rng x1
  refine J_iload_n dX7_stepZ_0 rfl ?_
  refine Jz_iconst 3 dX7_stepZ_1 (by decide) (fun y1 he1 => ?_)
  refine Jz_icmp_eq (tgt := 9) jEq.rf he1 dX7_stepZ_2 (by decide) (fun c2 => ?_) (fun c2 => ?_)
  · refine J_iload_n dX7_stepZ_9 rfl ?_
    refine Jz_iconst 2 dX7_stepZ_10 (by decide) (fun y10 he10 => ?_)
    refine Jz_icmp_ne (tgt := 18) jEq.rf he10 dX7_stepZ_11 (by decide) (fun c11 => ?_) (fun c11 => ?_)
    · refine J_iload_n dX7_stepZ_18 rfl ?_
      refine Jz_iconst 5 dX7_stepZ_19 (by decide) (fun y19 he19 => ?_)
      refine Jz_icmp_ne (tgt := 27) jEq.rf he19 dX7_stepZ_20 (by decide) (fun c20 => ?_) (fun c20 => ?_)
      · refine Jz_iconst 0 dX7_stepZ_27 (by decide) (fun y27 he27 => ?_)
        exact J_ret (r := some (.int _)) dX7_stepZ_28 ⟨rfl, _, rfl, rfl⟩ (⟨⟨_, rfl, (by (try simp only [he27.eq, true_and, and_true]) <;> omega), (by (try simp only [he27.eq, true_and, and_true]) <;> omega)⟩, rfl⟩)
      · refine Jz_iconst (-1) dX7_stepZ_23 (by decide) (fun y23 he23 => ?_)
        refine J_goto (tgt := 28) dX7_stepZ_24 (by decide) ?_
        exact J_ret (r := some (.int _)) dX7_stepZ_28 ⟨rfl, _, rfl, rfl⟩ (⟨⟨_, rfl, (by (try simp only [he23.eq, true_and, and_true]) <;> omega), (by (try simp only [he23.eq, true_and, and_true]) <;> omega)⟩, rfl⟩)
    · refine Jz_iconst 1 dX7_stepZ_14 (by decide) (fun y14 he14 => ?_)
      refine J_goto (tgt := 28) dX7_stepZ_15 (by decide) ?_
      exact J_ret (r := some (.int _)) dX7_stepZ_28 ⟨rfl, _, rfl, rfl⟩ (⟨⟨_, rfl, (by (try simp only [he14.eq, true_and, and_true]) <;> omega), (by (try simp only [he14.eq, true_and, and_true]) <;> omega)⟩, rfl⟩)
  · refine Jz_iconst 0 dX7_stepZ_5 (by decide) (fun y5 he5 => ?_)
    refine J_goto (tgt := 28) dX7_stepZ_6 (by decide) ?_
    exact J_ret (r := some (.int _)) dX7_stepZ_28 ⟨rfl, _, rfl, rfl⟩ (⟨⟨_, rfl, (by (try simp only [he5.eq, true_and, and_true]) <;> omega), (by (try simp only [he5.eq, true_and, and_true]) <;> omega)⟩, rfl⟩)
set_option maxRecDepth 100000 in
set_option maxHeartbeats 8000000 in
theorem w_X7_square {tS : jTS} (d : Nat) (V0 : jH) (x0 : Int32) (x1 : Int32) (x2 : Int32) (x3 : Int32) (hd : 0 ≤ d)   : jTot tS mX7_square d [.int x0, .int x1, .int x2, .int x3] V0 0 0 (fun r V => (fun r _ => ∃ y : Int32, r = some (.int y) ∧ ((-2147483648) ≤ y.toInt) ∧ (y.toInt ≤ 2147483647)) r V ∧ V = V0) := by
  refine jTot.of_J [some (.int x0), some (.int x1), some (.int x2), some (.int x3)] moX7_square (Nat.le_of_ble_eq_true rfl) rfl ?_
  have hrx0 := j_rng x0
  have hrx1 := j_rng x1
  have hrx2 := j_rng x2
  have hrx3 := j_rng x3
  refine J_iload_n dX7_square_0 rfl ?_
  refine J_iload_n dX7_square_1 rfl ?_
  refine Jz_imulw dX7_square_2 (fun y2  => ?_)
  refine J_iload_n dX7_square_3 rfl ?_
  refine J_iload_n dX7_square_4 rfl ?_
  refine Jz_imulw dX7_square_5 (fun y5  => ?_)
  refine Jz_iaddw dX7_square_6 (fun y6  => ?_)
  refine J_iload_n dX7_square_7 rfl ?_
  refine J_iload_n dX7_square_8 rfl ?_
  refine Jz_imulw dX7_square_9 (fun y9  => ?_)
  refine Jz_iaddw dX7_square_10 (fun y10  => ?_)
  refine J_iload_n dX7_square_11 rfl ?_
  refine Jz_iconst 1 dX7_square_12 (by decide) (fun y12 he12 => ?_)
  refine Jz_icmp_ne (tgt := 22) jEq.rf he12 dX7_square_13 (by decide) (fun c13 => ?_) (fun c13 => ?_)
  · refine Jz_iconst 0 dX7_square_22 (by decide) (fun y22 he22 => ?_)
    refine Jz_iaddw dX7_square_23 (fun y23  => ?_)
    exact J_ret (r := some (.int _)) dX7_square_24 ⟨rfl, _, rfl, rfl⟩ (⟨⟨_, rfl, (j_rng _).1, (j_rng _).2⟩, rfl⟩)
  · refine J_iload_n dX7_square_16 rfl ?_
    refine J_iload_n dX7_square_17 rfl ?_
    refine Jz_imulw dX7_square_18 (fun y18  => ?_)
    refine J_goto (tgt := 23) dX7_square_19 (by decide) ?_
    refine Jz_iaddw dX7_square_23 (fun y23  => ?_)
    exact J_ret (r := some (.int _)) dX7_square_24 ⟨rfl, _, rfl, rfl⟩ (⟨⟨_, rfl, (j_rng _).1, (j_rng _).2⟩, rfl⟩)
set_option maxRecDepth 100000 in
set_option maxHeartbeats 8000000 in
theorem w_X7_axis {tS : jTS} (d : Nat) (V0 : jH) (x0 : Int32) (x1 : Int32) (hd : 0 ≤ d)   : jTot tS mX7_axis d [.int x0, .int x1] V0 0 0 (fun r V => (fun r _ => ∃ y : Int32, r = some (.int y) ∧ ((-2147483648) ≤ y.toInt) ∧ (y.toInt ≤ 2147483647)) r V ∧ V = V0) := by
  refine jTot.of_J [some (.int x0), some (.int x1), none, none, none] moX7_axis (Nat.le_of_ble_eq_true rfl) rfl ?_
  have hrx0 := j_rng x0
  have hrx1 := j_rng x1
  refine J_iload_n dX7_axis_0 rfl ?_
  refine Jz_iconst 2 dX7_axis_1 (by decide) (fun y1 he1 => ?_)
  refine Jz_idivw he1 dX7_axis_2 (by omega) (fun y2  => ?_)
  refine J_istore_n dX7_axis_3 rfl (by decide) ?_
  refine J_iload_n dX7_axis_4 rfl ?_
  refine Jz_if_ne (tgt := 10) jEq.rf dX7_axis_5 (by decide) (fun c5 => ?_) (fun c5 => ?_)
  · refine J_iload_n dX7_axis_10 rfl ?_
    refine Jz_if_ne (tgt := 18) jEq.rf dX7_axis_11 (by decide) (fun c11 => ?_) (fun c11 => ?_)
    · refine Jz_iconst 0 dX7_axis_18 (by decide) (fun y18 he18 => ?_)
      refine J_istore_n dX7_axis_19 rfl (by decide) ?_
      refine J_iload_n dX7_axis_20 rfl ?_
      refine Jz_iconst 2 dX7_axis_21 (by decide) (fun y21 he21 => ?_)
      refine Jz_icmp_ne (tgt := 29) jEq.rf he21 dX7_axis_22 (by decide) (fun c22 => ?_) (fun c22 => ?_)
      · refine Jz_iconst 2 dX7_axis_29 (by decide) (fun y29 he29 => ?_)
        refine J_istore dX7_axis_30 rfl (by decide) ?_
        refine J_iload_n dX7_axis_32 rfl ?_
        refine Jz_iconst 1 dX7_axis_33 (by decide) (fun y33 he33 => ?_)
        refine Jz_icmp_ne (tgt := 41) jEq.rf he33 dX7_axis_34 (by decide) (fun c34 => ?_) (fun c34 => ?_)
        · refine Jz_iconst 0 dX7_axis_41 (by decide) (fun y41 he41 => ?_)
          refine J_iload_n dX7_axis_42 rfl ?_
          refine Jz_iconst 2 dX7_axis_43 (by decide) (fun y43 he43 => ?_)
          refine Jz_iremw he43 dX7_axis_44 (by omega) (fun y44  => ?_)
          refine Jz_if_ne (tgt := 52) jEq.rf dX7_axis_45 (by decide) (fun c45 => ?_) (fun c45 => ?_)
          · refine Jz_iconst 0 dX7_axis_52 (by decide) (fun y52 he52 => ?_)
            refine Jz_icmp_ne (tgt := 60) he41 he52 dX7_axis_53 (by decide) (fun c53 => ?_) (fun c53 => ?_)
            · refine J_iload dX7_axis_60 rfl ?_
              exact J_ret (r := some (.int _)) dX7_axis_62 ⟨rfl, _, rfl, rfl⟩ (⟨⟨_, rfl, (j_rng _).1, (j_rng _).2⟩, rfl⟩)
            · refine J_iload_n dX7_axis_56 rfl ?_
              refine J_goto (tgt := 62) dX7_axis_57 (by decide) ?_
              exact J_ret (r := some (.int _)) dX7_axis_62 ⟨rfl, _, rfl, rfl⟩ (⟨⟨_, rfl, (j_rng _).1, (j_rng _).2⟩, rfl⟩)
          · refine Jz_iconst 1 dX7_axis_48 (by decide) (fun y48 he48 => ?_)
            refine J_goto (tgt := 53) dX7_axis_49 (by decide) ?_
            refine Jz_icmp_ne (tgt := 60) he41 he48 dX7_axis_53 (by decide) (fun c53 => ?_) (fun c53 => ?_)
            · refine J_iload dX7_axis_60 rfl ?_
              exact J_ret (r := some (.int _)) dX7_axis_62 ⟨rfl, _, rfl, rfl⟩ (⟨⟨_, rfl, (j_rng _).1, (j_rng _).2⟩, rfl⟩)
            · refine J_iload_n dX7_axis_56 rfl ?_
              refine J_goto (tgt := 62) dX7_axis_57 (by decide) ?_
              exact J_ret (r := some (.int _)) dX7_axis_62 ⟨rfl, _, rfl, rfl⟩ (⟨⟨_, rfl, (j_rng _).1, (j_rng _).2⟩, rfl⟩)
        · refine Jz_iconst 1 dX7_axis_37 (by decide) (fun y37 he37 => ?_)
          refine J_goto (tgt := 42) dX7_axis_38 (by decide) ?_
          refine J_iload_n dX7_axis_42 rfl ?_
          refine Jz_iconst 2 dX7_axis_43 (by decide) (fun y43 he43 => ?_)
          refine Jz_iremw he43 dX7_axis_44 (by omega) (fun y44  => ?_)
          refine Jz_if_ne (tgt := 52) jEq.rf dX7_axis_45 (by decide) (fun c45 => ?_) (fun c45 => ?_)
          · refine Jz_iconst 0 dX7_axis_52 (by decide) (fun y52 he52 => ?_)
            refine Jz_icmp_ne (tgt := 60) he37 he52 dX7_axis_53 (by decide) (fun c53 => ?_) (fun c53 => ?_)
            · refine J_iload dX7_axis_60 rfl ?_
              exact J_ret (r := some (.int _)) dX7_axis_62 ⟨rfl, _, rfl, rfl⟩ (⟨⟨_, rfl, (j_rng _).1, (j_rng _).2⟩, rfl⟩)
            · refine J_iload_n dX7_axis_56 rfl ?_
              refine J_goto (tgt := 62) dX7_axis_57 (by decide) ?_
              exact J_ret (r := some (.int _)) dX7_axis_62 ⟨rfl, _, rfl, rfl⟩ (⟨⟨_, rfl, (j_rng _).1, (j_rng _).2⟩, rfl⟩)
          · refine Jz_iconst 1 dX7_axis_48 (by decide) (fun y48 he48 => ?_)
            refine J_goto (tgt := 53) dX7_axis_49 (by decide) ?_
            refine Jz_icmp_ne (tgt := 60) he37 he48 dX7_axis_53 (by decide) (fun c53 => ?_) (fun c53 => ?_)
            · refine J_iload dX7_axis_60 rfl ?_
              exact J_ret (r := some (.int _)) dX7_axis_62 ⟨rfl, _, rfl, rfl⟩ (⟨⟨_, rfl, (j_rng _).1, (j_rng _).2⟩, rfl⟩)
            · refine J_iload_n dX7_axis_56 rfl ?_
              refine J_goto (tgt := 62) dX7_axis_57 (by decide) ?_
              exact J_ret (r := some (.int _)) dX7_axis_62 ⟨rfl, _, rfl, rfl⟩ (⟨⟨_, rfl, (j_rng _).1, (j_rng _).2⟩, rfl⟩)
      · refine Jz_iconst 1 dX7_axis_25 (by decide) (fun y25 he25 => ?_)
        refine J_goto (tgt := 30) dX7_axis_26 (by decide) ?_
        refine J_istore dX7_axis_30 rfl (by decide) ?_
        refine J_iload_n dX7_axis_32 rfl ?_
        refine Jz_iconst 1 dX7_axis_33 (by decide) (fun y33 he33 => ?_)
        refine Jz_icmp_ne (tgt := 41) jEq.rf he33 dX7_axis_34 (by decide) (fun c34 => ?_) (fun c34 => ?_)
        · refine Jz_iconst 0 dX7_axis_41 (by decide) (fun y41 he41 => ?_)
          refine J_iload_n dX7_axis_42 rfl ?_
          refine Jz_iconst 2 dX7_axis_43 (by decide) (fun y43 he43 => ?_)
          refine Jz_iremw he43 dX7_axis_44 (by omega) (fun y44  => ?_)
          refine Jz_if_ne (tgt := 52) jEq.rf dX7_axis_45 (by decide) (fun c45 => ?_) (fun c45 => ?_)
          · refine Jz_iconst 0 dX7_axis_52 (by decide) (fun y52 he52 => ?_)
            refine Jz_icmp_ne (tgt := 60) he41 he52 dX7_axis_53 (by decide) (fun c53 => ?_) (fun c53 => ?_)
            · refine J_iload dX7_axis_60 rfl ?_
              exact J_ret (r := some (.int _)) dX7_axis_62 ⟨rfl, _, rfl, rfl⟩ (⟨⟨_, rfl, (j_rng _).1, (j_rng _).2⟩, rfl⟩)
            · refine J_iload_n dX7_axis_56 rfl ?_
              refine J_goto (tgt := 62) dX7_axis_57 (by decide) ?_
              exact J_ret (r := some (.int _)) dX7_axis_62 ⟨rfl, _, rfl, rfl⟩ (⟨⟨_, rfl, (j_rng _).1, (j_rng _).2⟩, rfl⟩)
          · refine Jz_iconst 1 dX7_axis_48 (by decide) (fun y48 he48 => ?_)
            refine J_goto (tgt := 53) dX7_axis_49 (by decide) ?_
            refine Jz_icmp_ne (tgt := 60) he41 he48 dX7_axis_53 (by decide) (fun c53 => ?_) (fun c53 => ?_)
            · refine J_iload dX7_axis_60 rfl ?_
              exact J_ret (r := some (.int _)) dX7_axis_62 ⟨rfl, _, rfl, rfl⟩ (⟨⟨_, rfl, (j_rng _).1, (j_rng _).2⟩, rfl⟩)
            · refine J_iload_n dX7_axis_56 rfl ?_
              refine J_goto (tgt := 62) dX7_axis_57 (by decide) ?_
              exact J_ret (r := some (.int _)) dX7_axis_62 ⟨rfl, _, rfl, rfl⟩ (⟨⟨_, rfl, (j_rng _).1, (j_rng _).2⟩, rfl⟩)
        · refine Jz_iconst 1 dX7_axis_37 (by decide) (fun y37 he37 => ?_)
          refine J_goto (tgt := 42) dX7_axis_38 (by decide) ?_
          refine J_iload_n dX7_axis_42 rfl ?_
          refine Jz_iconst 2 dX7_axis_43 (by decide) (fun y43 he43 => ?_)
          refine Jz_iremw he43 dX7_axis_44 (by omega) (fun y44  => ?_)
          refine Jz_if_ne (tgt := 52) jEq.rf dX7_axis_45 (by decide) (fun c45 => ?_) (fun c45 => ?_)
          · refine Jz_iconst 0 dX7_axis_52 (by decide) (fun y52 he52 => ?_)
            refine Jz_icmp_ne (tgt := 60) he37 he52 dX7_axis_53 (by decide) (fun c53 => ?_) (fun c53 => ?_)
            · refine J_iload dX7_axis_60 rfl ?_
              exact J_ret (r := some (.int _)) dX7_axis_62 ⟨rfl, _, rfl, rfl⟩ (⟨⟨_, rfl, (j_rng _).1, (j_rng _).2⟩, rfl⟩)
            · refine J_iload_n dX7_axis_56 rfl ?_
              refine J_goto (tgt := 62) dX7_axis_57 (by decide) ?_
              exact J_ret (r := some (.int _)) dX7_axis_62 ⟨rfl, _, rfl, rfl⟩ (⟨⟨_, rfl, (j_rng _).1, (j_rng _).2⟩, rfl⟩)
          · refine Jz_iconst 1 dX7_axis_48 (by decide) (fun y48 he48 => ?_)
            refine J_goto (tgt := 53) dX7_axis_49 (by decide) ?_
            refine Jz_icmp_ne (tgt := 60) he37 he48 dX7_axis_53 (by decide) (fun c53 => ?_) (fun c53 => ?_)
            · refine J_iload dX7_axis_60 rfl ?_
              exact J_ret (r := some (.int _)) dX7_axis_62 ⟨rfl, _, rfl, rfl⟩ (⟨⟨_, rfl, (j_rng _).1, (j_rng _).2⟩, rfl⟩)
            · refine J_iload_n dX7_axis_56 rfl ?_
              refine J_goto (tgt := 62) dX7_axis_57 (by decide) ?_
              exact J_ret (r := some (.int _)) dX7_axis_62 ⟨rfl, _, rfl, rfl⟩ (⟨⟨_, rfl, (j_rng _).1, (j_rng _).2⟩, rfl⟩)
    · refine Jz_iconst 1 dX7_axis_14 (by decide) (fun y14 he14 => ?_)
      refine J_goto (tgt := 19) dX7_axis_15 (by decide) ?_
      refine J_istore_n dX7_axis_19 rfl (by decide) ?_
      refine J_iload_n dX7_axis_20 rfl ?_
      refine Jz_iconst 2 dX7_axis_21 (by decide) (fun y21 he21 => ?_)
      refine Jz_icmp_ne (tgt := 29) jEq.rf he21 dX7_axis_22 (by decide) (fun c22 => ?_) (fun c22 => ?_)
      · refine Jz_iconst 2 dX7_axis_29 (by decide) (fun y29 he29 => ?_)
        refine J_istore dX7_axis_30 rfl (by decide) ?_
        refine J_iload_n dX7_axis_32 rfl ?_
        refine Jz_iconst 1 dX7_axis_33 (by decide) (fun y33 he33 => ?_)
        refine Jz_icmp_ne (tgt := 41) jEq.rf he33 dX7_axis_34 (by decide) (fun c34 => ?_) (fun c34 => ?_)
        · refine Jz_iconst 0 dX7_axis_41 (by decide) (fun y41 he41 => ?_)
          refine J_iload_n dX7_axis_42 rfl ?_
          refine Jz_iconst 2 dX7_axis_43 (by decide) (fun y43 he43 => ?_)
          refine Jz_iremw he43 dX7_axis_44 (by omega) (fun y44  => ?_)
          refine Jz_if_ne (tgt := 52) jEq.rf dX7_axis_45 (by decide) (fun c45 => ?_) (fun c45 => ?_)
          · refine Jz_iconst 0 dX7_axis_52 (by decide) (fun y52 he52 => ?_)
            refine Jz_icmp_ne (tgt := 60) he41 he52 dX7_axis_53 (by decide) (fun c53 => ?_) (fun c53 => ?_)
            · refine J_iload dX7_axis_60 rfl ?_
              exact J_ret (r := some (.int _)) dX7_axis_62 ⟨rfl, _, rfl, rfl⟩ (⟨⟨_, rfl, (j_rng _).1, (j_rng _).2⟩, rfl⟩)
            · refine J_iload_n dX7_axis_56 rfl ?_
              refine J_goto (tgt := 62) dX7_axis_57 (by decide) ?_
              exact J_ret (r := some (.int _)) dX7_axis_62 ⟨rfl, _, rfl, rfl⟩ (⟨⟨_, rfl, (j_rng _).1, (j_rng _).2⟩, rfl⟩)
          · refine Jz_iconst 1 dX7_axis_48 (by decide) (fun y48 he48 => ?_)
            refine J_goto (tgt := 53) dX7_axis_49 (by decide) ?_
            refine Jz_icmp_ne (tgt := 60) he41 he48 dX7_axis_53 (by decide) (fun c53 => ?_) (fun c53 => ?_)
            · refine J_iload dX7_axis_60 rfl ?_
              exact J_ret (r := some (.int _)) dX7_axis_62 ⟨rfl, _, rfl, rfl⟩ (⟨⟨_, rfl, (j_rng _).1, (j_rng _).2⟩, rfl⟩)
            · refine J_iload_n dX7_axis_56 rfl ?_
              refine J_goto (tgt := 62) dX7_axis_57 (by decide) ?_
              exact J_ret (r := some (.int _)) dX7_axis_62 ⟨rfl, _, rfl, rfl⟩ (⟨⟨_, rfl, (j_rng _).1, (j_rng _).2⟩, rfl⟩)
        · refine Jz_iconst 1 dX7_axis_37 (by decide) (fun y37 he37 => ?_)
          refine J_goto (tgt := 42) dX7_axis_38 (by decide) ?_
          refine J_iload_n dX7_axis_42 rfl ?_
          refine Jz_iconst 2 dX7_axis_43 (by decide) (fun y43 he43 => ?_)
          refine Jz_iremw he43 dX7_axis_44 (by omega) (fun y44  => ?_)
          refine Jz_if_ne (tgt := 52) jEq.rf dX7_axis_45 (by decide) (fun c45 => ?_) (fun c45 => ?_)
          · refine Jz_iconst 0 dX7_axis_52 (by decide) (fun y52 he52 => ?_)
            refine Jz_icmp_ne (tgt := 60) he37 he52 dX7_axis_53 (by decide) (fun c53 => ?_) (fun c53 => ?_)
            · refine J_iload dX7_axis_60 rfl ?_
              exact J_ret (r := some (.int _)) dX7_axis_62 ⟨rfl, _, rfl, rfl⟩ (⟨⟨_, rfl, (j_rng _).1, (j_rng _).2⟩, rfl⟩)
            · refine J_iload_n dX7_axis_56 rfl ?_
              refine J_goto (tgt := 62) dX7_axis_57 (by decide) ?_
              exact J_ret (r := some (.int _)) dX7_axis_62 ⟨rfl, _, rfl, rfl⟩ (⟨⟨_, rfl, (j_rng _).1, (j_rng _).2⟩, rfl⟩)
          · refine Jz_iconst 1 dX7_axis_48 (by decide) (fun y48 he48 => ?_)
            refine J_goto (tgt := 53) dX7_axis_49 (by decide) ?_
            refine Jz_icmp_ne (tgt := 60) he37 he48 dX7_axis_53 (by decide) (fun c53 => ?_) (fun c53 => ?_)
            · refine J_iload dX7_axis_60 rfl ?_
              exact J_ret (r := some (.int _)) dX7_axis_62 ⟨rfl, _, rfl, rfl⟩ (⟨⟨_, rfl, (j_rng _).1, (j_rng _).2⟩, rfl⟩)
            · refine J_iload_n dX7_axis_56 rfl ?_
              refine J_goto (tgt := 62) dX7_axis_57 (by decide) ?_
              exact J_ret (r := some (.int _)) dX7_axis_62 ⟨rfl, _, rfl, rfl⟩ (⟨⟨_, rfl, (j_rng _).1, (j_rng _).2⟩, rfl⟩)
      · refine Jz_iconst 1 dX7_axis_25 (by decide) (fun y25 he25 => ?_)
        refine J_goto (tgt := 30) dX7_axis_26 (by decide) ?_
        refine J_istore dX7_axis_30 rfl (by decide) ?_
        refine J_iload_n dX7_axis_32 rfl ?_
        refine Jz_iconst 1 dX7_axis_33 (by decide) (fun y33 he33 => ?_)
        refine Jz_icmp_ne (tgt := 41) jEq.rf he33 dX7_axis_34 (by decide) (fun c34 => ?_) (fun c34 => ?_)
        · refine Jz_iconst 0 dX7_axis_41 (by decide) (fun y41 he41 => ?_)
          refine J_iload_n dX7_axis_42 rfl ?_
          refine Jz_iconst 2 dX7_axis_43 (by decide) (fun y43 he43 => ?_)
          refine Jz_iremw he43 dX7_axis_44 (by omega) (fun y44  => ?_)
          refine Jz_if_ne (tgt := 52) jEq.rf dX7_axis_45 (by decide) (fun c45 => ?_) (fun c45 => ?_)
          · refine Jz_iconst 0 dX7_axis_52 (by decide) (fun y52 he52 => ?_)
            refine Jz_icmp_ne (tgt := 60) he41 he52 dX7_axis_53 (by decide) (fun c53 => ?_) (fun c53 => ?_)
            · refine J_iload dX7_axis_60 rfl ?_
              exact J_ret (r := some (.int _)) dX7_axis_62 ⟨rfl, _, rfl, rfl⟩ (⟨⟨_, rfl, (j_rng _).1, (j_rng _).2⟩, rfl⟩)
            · refine J_iload_n dX7_axis_56 rfl ?_
              refine J_goto (tgt := 62) dX7_axis_57 (by decide) ?_
              exact J_ret (r := some (.int _)) dX7_axis_62 ⟨rfl, _, rfl, rfl⟩ (⟨⟨_, rfl, (j_rng _).1, (j_rng _).2⟩, rfl⟩)
          · refine Jz_iconst 1 dX7_axis_48 (by decide) (fun y48 he48 => ?_)
            refine J_goto (tgt := 53) dX7_axis_49 (by decide) ?_
            refine Jz_icmp_ne (tgt := 60) he41 he48 dX7_axis_53 (by decide) (fun c53 => ?_) (fun c53 => ?_)
            · refine J_iload dX7_axis_60 rfl ?_
              exact J_ret (r := some (.int _)) dX7_axis_62 ⟨rfl, _, rfl, rfl⟩ (⟨⟨_, rfl, (j_rng _).1, (j_rng _).2⟩, rfl⟩)
            · refine J_iload_n dX7_axis_56 rfl ?_
              refine J_goto (tgt := 62) dX7_axis_57 (by decide) ?_
              exact J_ret (r := some (.int _)) dX7_axis_62 ⟨rfl, _, rfl, rfl⟩ (⟨⟨_, rfl, (j_rng _).1, (j_rng _).2⟩, rfl⟩)
        · refine Jz_iconst 1 dX7_axis_37 (by decide) (fun y37 he37 => ?_)
          refine J_goto (tgt := 42) dX7_axis_38 (by decide) ?_
          refine J_iload_n dX7_axis_42 rfl ?_
          refine Jz_iconst 2 dX7_axis_43 (by decide) (fun y43 he43 => ?_)
          refine Jz_iremw he43 dX7_axis_44 (by omega) (fun y44  => ?_)
          refine Jz_if_ne (tgt := 52) jEq.rf dX7_axis_45 (by decide) (fun c45 => ?_) (fun c45 => ?_)
          · refine Jz_iconst 0 dX7_axis_52 (by decide) (fun y52 he52 => ?_)
            refine Jz_icmp_ne (tgt := 60) he37 he52 dX7_axis_53 (by decide) (fun c53 => ?_) (fun c53 => ?_)
            · refine J_iload dX7_axis_60 rfl ?_
              exact J_ret (r := some (.int _)) dX7_axis_62 ⟨rfl, _, rfl, rfl⟩ (⟨⟨_, rfl, (j_rng _).1, (j_rng _).2⟩, rfl⟩)
            · refine J_iload_n dX7_axis_56 rfl ?_
              refine J_goto (tgt := 62) dX7_axis_57 (by decide) ?_
              exact J_ret (r := some (.int _)) dX7_axis_62 ⟨rfl, _, rfl, rfl⟩ (⟨⟨_, rfl, (j_rng _).1, (j_rng _).2⟩, rfl⟩)
          · refine Jz_iconst 1 dX7_axis_48 (by decide) (fun y48 he48 => ?_)
            refine J_goto (tgt := 53) dX7_axis_49 (by decide) ?_
            refine Jz_icmp_ne (tgt := 60) he37 he48 dX7_axis_53 (by decide) (fun c53 => ?_) (fun c53 => ?_)
            · refine J_iload dX7_axis_60 rfl ?_
              exact J_ret (r := some (.int _)) dX7_axis_62 ⟨rfl, _, rfl, rfl⟩ (⟨⟨_, rfl, (j_rng _).1, (j_rng _).2⟩, rfl⟩)
            · refine J_iload_n dX7_axis_56 rfl ?_
              refine J_goto (tgt := 62) dX7_axis_57 (by decide) ?_
              exact J_ret (r := some (.int _)) dX7_axis_62 ⟨rfl, _, rfl, rfl⟩ (⟨⟨_, rfl, (j_rng _).1, (j_rng _).2⟩, rfl⟩)
  · refine J_iload_n dX7_axis_8 rfl ?_
    exact J_ret (r := some (.int _)) dX7_axis_9 ⟨rfl, _, rfl, rfl⟩ (⟨⟨_, rfl, (j_rng _).1, (j_rng _).2⟩, rfl⟩)
set_option maxRecDepth 100000 in
set_option maxHeartbeats 8000000 in
theorem w_X7_axis_in {tS : jTS} (d : Nat) (V0 : jH) (x0 : Int32) (x1 : Int32) (hd : 0 ≤ d)  (hp0 : 0 ≤ x0.toInt) (hp1 : x0.toInt ≤ 5) : jTot tS mX7_axis d [.int x0, .int x1] V0 0 0 (fun r V => (fun r _ => ∃ y : Int32, r = some (.int y) ∧ (0 ≤ y.toInt) ∧ (y.toInt ≤ 2)) r V ∧ V = V0) := by
  refine jTot.of_J [some (.int x0), some (.int x1), none, none, none] moX7_axis (Nat.le_of_ble_eq_true rfl) rfl ?_
  have hrx0 := j_rng x0
  have hrx1 := j_rng x1
  refine J_iload_n dX7_axis_0 rfl ?_
  refine Jz_iconst 2 dX7_axis_1 (by decide) (fun y1 he1 => ?_)
  refine Jz_idivC jEq.rf he1 dX7_axis_2 (by omega) (by omega) (fun y2 he2 => ?_)
  refine J_istore_n dX7_axis_3 rfl (by decide) ?_
  refine J_iload_n dX7_axis_4 rfl ?_
  refine Jz_if_ne (tgt := 10) jEq.rf dX7_axis_5 (by decide) (fun c5 => ?_) (fun c5 => ?_)
  · refine J_iload_n dX7_axis_10 rfl ?_
    refine Jz_if_ne (tgt := 18) he2 dX7_axis_11 (by decide) (fun c11 => ?_) (fun c11 => ?_)
    · refine Jz_iconst 0 dX7_axis_18 (by decide) (fun y18 he18 => ?_)
      refine J_istore_n dX7_axis_19 rfl (by decide) ?_
      refine J_iload_n dX7_axis_20 rfl ?_
      refine Jz_iconst 2 dX7_axis_21 (by decide) (fun y21 he21 => ?_)
      refine Jz_icmp_ne (tgt := 29) he2 he21 dX7_axis_22 (by decide) (fun c22 => ?_) (fun c22 => ?_)
      · refine Jz_iconst 2 dX7_axis_29 (by decide) (fun y29 he29 => ?_)
        refine J_istore dX7_axis_30 rfl (by decide) ?_
        refine J_iload_n dX7_axis_32 rfl ?_
        refine Jz_iconst 1 dX7_axis_33 (by decide) (fun y33 he33 => ?_)
        refine Jz_icmp_ne (tgt := 41) jEq.rf he33 dX7_axis_34 (by decide) (fun c34 => ?_) (fun c34 => ?_)
        · refine Jz_iconst 0 dX7_axis_41 (by decide) (fun y41 he41 => ?_)
          refine J_iload_n dX7_axis_42 rfl ?_
          refine Jz_iconst 2 dX7_axis_43 (by decide) (fun y43 he43 => ?_)
          refine Jz_iremw he43 dX7_axis_44 (by omega) (fun y44  => ?_)
          refine Jz_if_ne (tgt := 52) jEq.rf dX7_axis_45 (by decide) (fun c45 => ?_) (fun c45 => ?_)
          · refine Jz_iconst 0 dX7_axis_52 (by decide) (fun y52 he52 => ?_)
            refine Jz_icmp_ne (tgt := 60) he41 he52 dX7_axis_53 (by decide) (fun c53 => ?_) (fun c53 => ?_)
            · refine J_iload dX7_axis_60 rfl ?_
              exact J_ret (r := some (.int _)) dX7_axis_62 ⟨rfl, _, rfl, rfl⟩ (⟨⟨_, rfl, (by (try simp only [he29.eq, true_and, and_true]) <;> omega), (by (try simp only [he29.eq, true_and, and_true]) <;> omega)⟩, rfl⟩)
            · refine J_iload_n dX7_axis_56 rfl ?_
              refine J_goto (tgt := 62) dX7_axis_57 (by decide) ?_
              exact J_ret (r := some (.int _)) dX7_axis_62 ⟨rfl, _, rfl, rfl⟩ (⟨⟨_, rfl, (by (try simp only [he18.eq, true_and, and_true]) <;> omega), (by (try simp only [he18.eq, true_and, and_true]) <;> omega)⟩, rfl⟩)
          · refine Jz_iconst 1 dX7_axis_48 (by decide) (fun y48 he48 => ?_)
            refine J_goto (tgt := 53) dX7_axis_49 (by decide) ?_
            refine Jz_icmp_ne (tgt := 60) he41 he48 dX7_axis_53 (by decide) (fun c53 => ?_) (fun c53 => ?_)
            · refine J_iload dX7_axis_60 rfl ?_
              exact J_ret (r := some (.int _)) dX7_axis_62 ⟨rfl, _, rfl, rfl⟩ (⟨⟨_, rfl, (by (try simp only [he29.eq, true_and, and_true]) <;> omega), (by (try simp only [he29.eq, true_and, and_true]) <;> omega)⟩, rfl⟩)
            · refine J_iload_n dX7_axis_56 rfl ?_
              refine J_goto (tgt := 62) dX7_axis_57 (by decide) ?_
              exact J_ret (r := some (.int _)) dX7_axis_62 ⟨rfl, _, rfl, rfl⟩ (⟨⟨_, rfl, (by (try simp only [he18.eq, true_and, and_true]) <;> omega), (by (try simp only [he18.eq, true_and, and_true]) <;> omega)⟩, rfl⟩)
        · refine Jz_iconst 1 dX7_axis_37 (by decide) (fun y37 he37 => ?_)
          refine J_goto (tgt := 42) dX7_axis_38 (by decide) ?_
          refine J_iload_n dX7_axis_42 rfl ?_
          refine Jz_iconst 2 dX7_axis_43 (by decide) (fun y43 he43 => ?_)
          refine Jz_iremw he43 dX7_axis_44 (by omega) (fun y44  => ?_)
          refine Jz_if_ne (tgt := 52) jEq.rf dX7_axis_45 (by decide) (fun c45 => ?_) (fun c45 => ?_)
          · refine Jz_iconst 0 dX7_axis_52 (by decide) (fun y52 he52 => ?_)
            refine Jz_icmp_ne (tgt := 60) he37 he52 dX7_axis_53 (by decide) (fun c53 => ?_) (fun c53 => ?_)
            · refine J_iload dX7_axis_60 rfl ?_
              exact J_ret (r := some (.int _)) dX7_axis_62 ⟨rfl, _, rfl, rfl⟩ (⟨⟨_, rfl, (by (try simp only [he29.eq, true_and, and_true]) <;> omega), (by (try simp only [he29.eq, true_and, and_true]) <;> omega)⟩, rfl⟩)
            · refine J_iload_n dX7_axis_56 rfl ?_
              refine J_goto (tgt := 62) dX7_axis_57 (by decide) ?_
              exact J_ret (r := some (.int _)) dX7_axis_62 ⟨rfl, _, rfl, rfl⟩ (⟨⟨_, rfl, (by (try simp only [he18.eq, true_and, and_true]) <;> omega), (by (try simp only [he18.eq, true_and, and_true]) <;> omega)⟩, rfl⟩)
          · refine Jz_iconst 1 dX7_axis_48 (by decide) (fun y48 he48 => ?_)
            refine J_goto (tgt := 53) dX7_axis_49 (by decide) ?_
            refine Jz_icmp_ne (tgt := 60) he37 he48 dX7_axis_53 (by decide) (fun c53 => ?_) (fun c53 => ?_)
            · refine J_iload dX7_axis_60 rfl ?_
              exact J_ret (r := some (.int _)) dX7_axis_62 ⟨rfl, _, rfl, rfl⟩ (⟨⟨_, rfl, (by (try simp only [he29.eq, true_and, and_true]) <;> omega), (by (try simp only [he29.eq, true_and, and_true]) <;> omega)⟩, rfl⟩)
            · refine J_iload_n dX7_axis_56 rfl ?_
              refine J_goto (tgt := 62) dX7_axis_57 (by decide) ?_
              exact J_ret (r := some (.int _)) dX7_axis_62 ⟨rfl, _, rfl, rfl⟩ (⟨⟨_, rfl, (by (try simp only [he18.eq, true_and, and_true]) <;> omega), (by (try simp only [he18.eq, true_and, and_true]) <;> omega)⟩, rfl⟩)
      · refine Jz_iconst 1 dX7_axis_25 (by decide) (fun y25 he25 => ?_)
        refine J_goto (tgt := 30) dX7_axis_26 (by decide) ?_
        refine J_istore dX7_axis_30 rfl (by decide) ?_
        refine J_iload_n dX7_axis_32 rfl ?_
        refine Jz_iconst 1 dX7_axis_33 (by decide) (fun y33 he33 => ?_)
        refine Jz_icmp_ne (tgt := 41) jEq.rf he33 dX7_axis_34 (by decide) (fun c34 => ?_) (fun c34 => ?_)
        · refine Jz_iconst 0 dX7_axis_41 (by decide) (fun y41 he41 => ?_)
          refine J_iload_n dX7_axis_42 rfl ?_
          refine Jz_iconst 2 dX7_axis_43 (by decide) (fun y43 he43 => ?_)
          refine Jz_iremw he43 dX7_axis_44 (by omega) (fun y44  => ?_)
          refine Jz_if_ne (tgt := 52) jEq.rf dX7_axis_45 (by decide) (fun c45 => ?_) (fun c45 => ?_)
          · refine Jz_iconst 0 dX7_axis_52 (by decide) (fun y52 he52 => ?_)
            refine Jz_icmp_ne (tgt := 60) he41 he52 dX7_axis_53 (by decide) (fun c53 => ?_) (fun c53 => ?_)
            · refine J_iload dX7_axis_60 rfl ?_
              exact J_ret (r := some (.int _)) dX7_axis_62 ⟨rfl, _, rfl, rfl⟩ (⟨⟨_, rfl, (by (try simp only [he25.eq, true_and, and_true]) <;> omega), (by (try simp only [he25.eq, true_and, and_true]) <;> omega)⟩, rfl⟩)
            · refine J_iload_n dX7_axis_56 rfl ?_
              refine J_goto (tgt := 62) dX7_axis_57 (by decide) ?_
              exact J_ret (r := some (.int _)) dX7_axis_62 ⟨rfl, _, rfl, rfl⟩ (⟨⟨_, rfl, (by (try simp only [he18.eq, true_and, and_true]) <;> omega), (by (try simp only [he18.eq, true_and, and_true]) <;> omega)⟩, rfl⟩)
          · refine Jz_iconst 1 dX7_axis_48 (by decide) (fun y48 he48 => ?_)
            refine J_goto (tgt := 53) dX7_axis_49 (by decide) ?_
            refine Jz_icmp_ne (tgt := 60) he41 he48 dX7_axis_53 (by decide) (fun c53 => ?_) (fun c53 => ?_)
            · refine J_iload dX7_axis_60 rfl ?_
              exact J_ret (r := some (.int _)) dX7_axis_62 ⟨rfl, _, rfl, rfl⟩ (⟨⟨_, rfl, (by (try simp only [he25.eq, true_and, and_true]) <;> omega), (by (try simp only [he25.eq, true_and, and_true]) <;> omega)⟩, rfl⟩)
            · refine J_iload_n dX7_axis_56 rfl ?_
              refine J_goto (tgt := 62) dX7_axis_57 (by decide) ?_
              exact J_ret (r := some (.int _)) dX7_axis_62 ⟨rfl, _, rfl, rfl⟩ (⟨⟨_, rfl, (by (try simp only [he18.eq, true_and, and_true]) <;> omega), (by (try simp only [he18.eq, true_and, and_true]) <;> omega)⟩, rfl⟩)
        · refine Jz_iconst 1 dX7_axis_37 (by decide) (fun y37 he37 => ?_)
          refine J_goto (tgt := 42) dX7_axis_38 (by decide) ?_
          refine J_iload_n dX7_axis_42 rfl ?_
          refine Jz_iconst 2 dX7_axis_43 (by decide) (fun y43 he43 => ?_)
          refine Jz_iremw he43 dX7_axis_44 (by omega) (fun y44  => ?_)
          refine Jz_if_ne (tgt := 52) jEq.rf dX7_axis_45 (by decide) (fun c45 => ?_) (fun c45 => ?_)
          · refine Jz_iconst 0 dX7_axis_52 (by decide) (fun y52 he52 => ?_)
            refine Jz_icmp_ne (tgt := 60) he37 he52 dX7_axis_53 (by decide) (fun c53 => ?_) (fun c53 => ?_)
            · refine J_iload dX7_axis_60 rfl ?_
              exact J_ret (r := some (.int _)) dX7_axis_62 ⟨rfl, _, rfl, rfl⟩ (⟨⟨_, rfl, (by (try simp only [he25.eq, true_and, and_true]) <;> omega), (by (try simp only [he25.eq, true_and, and_true]) <;> omega)⟩, rfl⟩)
            · refine J_iload_n dX7_axis_56 rfl ?_
              refine J_goto (tgt := 62) dX7_axis_57 (by decide) ?_
              exact J_ret (r := some (.int _)) dX7_axis_62 ⟨rfl, _, rfl, rfl⟩ (⟨⟨_, rfl, (by (try simp only [he18.eq, true_and, and_true]) <;> omega), (by (try simp only [he18.eq, true_and, and_true]) <;> omega)⟩, rfl⟩)
          · refine Jz_iconst 1 dX7_axis_48 (by decide) (fun y48 he48 => ?_)
            refine J_goto (tgt := 53) dX7_axis_49 (by decide) ?_
            refine Jz_icmp_ne (tgt := 60) he37 he48 dX7_axis_53 (by decide) (fun c53 => ?_) (fun c53 => ?_)
            · refine J_iload dX7_axis_60 rfl ?_
              exact J_ret (r := some (.int _)) dX7_axis_62 ⟨rfl, _, rfl, rfl⟩ (⟨⟨_, rfl, (by (try simp only [he25.eq, true_and, and_true]) <;> omega), (by (try simp only [he25.eq, true_and, and_true]) <;> omega)⟩, rfl⟩)
            · refine J_iload_n dX7_axis_56 rfl ?_
              refine J_goto (tgt := 62) dX7_axis_57 (by decide) ?_
              exact J_ret (r := some (.int _)) dX7_axis_62 ⟨rfl, _, rfl, rfl⟩ (⟨⟨_, rfl, (by (try simp only [he18.eq, true_and, and_true]) <;> omega), (by (try simp only [he18.eq, true_and, and_true]) <;> omega)⟩, rfl⟩)
    · refine Jz_iconst 1 dX7_axis_14 (by decide) (fun y14 he14 => ?_)
      refine J_goto (tgt := 19) dX7_axis_15 (by decide) ?_
      refine J_istore_n dX7_axis_19 rfl (by decide) ?_
      refine J_iload_n dX7_axis_20 rfl ?_
      refine Jz_iconst 2 dX7_axis_21 (by decide) (fun y21 he21 => ?_)
      refine Jz_icmp_ne (tgt := 29) he2 he21 dX7_axis_22 (by decide) (fun c22 => ?_) (fun c22 => ?_)
      · refine Jz_iconst 2 dX7_axis_29 (by decide) (fun y29 he29 => ?_)
        refine J_istore dX7_axis_30 rfl (by decide) ?_
        refine J_iload_n dX7_axis_32 rfl ?_
        refine Jz_iconst 1 dX7_axis_33 (by decide) (fun y33 he33 => ?_)
        refine Jz_icmp_ne (tgt := 41) jEq.rf he33 dX7_axis_34 (by decide) (fun c34 => ?_) (fun c34 => ?_)
        · refine Jz_iconst 0 dX7_axis_41 (by decide) (fun y41 he41 => ?_)
          refine J_iload_n dX7_axis_42 rfl ?_
          refine Jz_iconst 2 dX7_axis_43 (by decide) (fun y43 he43 => ?_)
          refine Jz_iremw he43 dX7_axis_44 (by omega) (fun y44  => ?_)
          refine Jz_if_ne (tgt := 52) jEq.rf dX7_axis_45 (by decide) (fun c45 => ?_) (fun c45 => ?_)
          · refine Jz_iconst 0 dX7_axis_52 (by decide) (fun y52 he52 => ?_)
            refine Jz_icmp_ne (tgt := 60) he41 he52 dX7_axis_53 (by decide) (fun c53 => ?_) (fun c53 => ?_)
            · refine J_iload dX7_axis_60 rfl ?_
              exact J_ret (r := some (.int _)) dX7_axis_62 ⟨rfl, _, rfl, rfl⟩ (⟨⟨_, rfl, (by (try simp only [he29.eq, true_and, and_true]) <;> omega), (by (try simp only [he29.eq, true_and, and_true]) <;> omega)⟩, rfl⟩)
            · refine J_iload_n dX7_axis_56 rfl ?_
              refine J_goto (tgt := 62) dX7_axis_57 (by decide) ?_
              exact J_ret (r := some (.int _)) dX7_axis_62 ⟨rfl, _, rfl, rfl⟩ (⟨⟨_, rfl, (by (try simp only [he14.eq, true_and, and_true]) <;> omega), (by (try simp only [he14.eq, true_and, and_true]) <;> omega)⟩, rfl⟩)
          · refine Jz_iconst 1 dX7_axis_48 (by decide) (fun y48 he48 => ?_)
            refine J_goto (tgt := 53) dX7_axis_49 (by decide) ?_
            refine Jz_icmp_ne (tgt := 60) he41 he48 dX7_axis_53 (by decide) (fun c53 => ?_) (fun c53 => ?_)
            · refine J_iload dX7_axis_60 rfl ?_
              exact J_ret (r := some (.int _)) dX7_axis_62 ⟨rfl, _, rfl, rfl⟩ (⟨⟨_, rfl, (by (try simp only [he29.eq, true_and, and_true]) <;> omega), (by (try simp only [he29.eq, true_and, and_true]) <;> omega)⟩, rfl⟩)
            · refine J_iload_n dX7_axis_56 rfl ?_
              refine J_goto (tgt := 62) dX7_axis_57 (by decide) ?_
              exact J_ret (r := some (.int _)) dX7_axis_62 ⟨rfl, _, rfl, rfl⟩ (⟨⟨_, rfl, (by (try simp only [he14.eq, true_and, and_true]) <;> omega), (by (try simp only [he14.eq, true_and, and_true]) <;> omega)⟩, rfl⟩)
        · refine Jz_iconst 1 dX7_axis_37 (by decide) (fun y37 he37 => ?_)
          refine J_goto (tgt := 42) dX7_axis_38 (by decide) ?_
          refine J_iload_n dX7_axis_42 rfl ?_
          refine Jz_iconst 2 dX7_axis_43 (by decide) (fun y43 he43 => ?_)
          refine Jz_iremw he43 dX7_axis_44 (by omega) (fun y44  => ?_)
          refine Jz_if_ne (tgt := 52) jEq.rf dX7_axis_45 (by decide) (fun c45 => ?_) (fun c45 => ?_)
          · refine Jz_iconst 0 dX7_axis_52 (by decide) (fun y52 he52 => ?_)
            refine Jz_icmp_ne (tgt := 60) he37 he52 dX7_axis_53 (by decide) (fun c53 => ?_) (fun c53 => ?_)
            · refine J_iload dX7_axis_60 rfl ?_
              exact J_ret (r := some (.int _)) dX7_axis_62 ⟨rfl, _, rfl, rfl⟩ (⟨⟨_, rfl, (by (try simp only [he29.eq, true_and, and_true]) <;> omega), (by (try simp only [he29.eq, true_and, and_true]) <;> omega)⟩, rfl⟩)
            · refine J_iload_n dX7_axis_56 rfl ?_
              refine J_goto (tgt := 62) dX7_axis_57 (by decide) ?_
              exact J_ret (r := some (.int _)) dX7_axis_62 ⟨rfl, _, rfl, rfl⟩ (⟨⟨_, rfl, (by (try simp only [he14.eq, true_and, and_true]) <;> omega), (by (try simp only [he14.eq, true_and, and_true]) <;> omega)⟩, rfl⟩)
          · refine Jz_iconst 1 dX7_axis_48 (by decide) (fun y48 he48 => ?_)
            refine J_goto (tgt := 53) dX7_axis_49 (by decide) ?_
            refine Jz_icmp_ne (tgt := 60) he37 he48 dX7_axis_53 (by decide) (fun c53 => ?_) (fun c53 => ?_)
            · refine J_iload dX7_axis_60 rfl ?_
              exact J_ret (r := some (.int _)) dX7_axis_62 ⟨rfl, _, rfl, rfl⟩ (⟨⟨_, rfl, (by (try simp only [he29.eq, true_and, and_true]) <;> omega), (by (try simp only [he29.eq, true_and, and_true]) <;> omega)⟩, rfl⟩)
            · refine J_iload_n dX7_axis_56 rfl ?_
              refine J_goto (tgt := 62) dX7_axis_57 (by decide) ?_
              exact J_ret (r := some (.int _)) dX7_axis_62 ⟨rfl, _, rfl, rfl⟩ (⟨⟨_, rfl, (by (try simp only [he14.eq, true_and, and_true]) <;> omega), (by (try simp only [he14.eq, true_and, and_true]) <;> omega)⟩, rfl⟩)
      · refine Jz_iconst 1 dX7_axis_25 (by decide) (fun y25 he25 => ?_)
        refine J_goto (tgt := 30) dX7_axis_26 (by decide) ?_
        refine J_istore dX7_axis_30 rfl (by decide) ?_
        refine J_iload_n dX7_axis_32 rfl ?_
        refine Jz_iconst 1 dX7_axis_33 (by decide) (fun y33 he33 => ?_)
        refine Jz_icmp_ne (tgt := 41) jEq.rf he33 dX7_axis_34 (by decide) (fun c34 => ?_) (fun c34 => ?_)
        · refine Jz_iconst 0 dX7_axis_41 (by decide) (fun y41 he41 => ?_)
          refine J_iload_n dX7_axis_42 rfl ?_
          refine Jz_iconst 2 dX7_axis_43 (by decide) (fun y43 he43 => ?_)
          refine Jz_iremw he43 dX7_axis_44 (by omega) (fun y44  => ?_)
          refine Jz_if_ne (tgt := 52) jEq.rf dX7_axis_45 (by decide) (fun c45 => ?_) (fun c45 => ?_)
          · refine Jz_iconst 0 dX7_axis_52 (by decide) (fun y52 he52 => ?_)
            refine Jz_icmp_ne (tgt := 60) he41 he52 dX7_axis_53 (by decide) (fun c53 => ?_) (fun c53 => ?_)
            · refine J_iload dX7_axis_60 rfl ?_
              exact J_ret (r := some (.int _)) dX7_axis_62 ⟨rfl, _, rfl, rfl⟩ (⟨⟨_, rfl, (by (try simp only [he25.eq, true_and, and_true]) <;> omega), (by (try simp only [he25.eq, true_and, and_true]) <;> omega)⟩, rfl⟩)
            · refine J_iload_n dX7_axis_56 rfl ?_
              refine J_goto (tgt := 62) dX7_axis_57 (by decide) ?_
              exact J_ret (r := some (.int _)) dX7_axis_62 ⟨rfl, _, rfl, rfl⟩ (⟨⟨_, rfl, (by (try simp only [he14.eq, true_and, and_true]) <;> omega), (by (try simp only [he14.eq, true_and, and_true]) <;> omega)⟩, rfl⟩)
          · refine Jz_iconst 1 dX7_axis_48 (by decide) (fun y48 he48 => ?_)
            refine J_goto (tgt := 53) dX7_axis_49 (by decide) ?_
            refine Jz_icmp_ne (tgt := 60) he41 he48 dX7_axis_53 (by decide) (fun c53 => ?_) (fun c53 => ?_)
            · refine J_iload dX7_axis_60 rfl ?_
              exact J_ret (r := some (.int _)) dX7_axis_62 ⟨rfl, _, rfl, rfl⟩ (⟨⟨_, rfl, (by (try simp only [he25.eq, true_and, and_true]) <;> omega), (by (try simp only [he25.eq, true_and, and_true]) <;> omega)⟩, rfl⟩)
            · refine J_iload_n dX7_axis_56 rfl ?_
              refine J_goto (tgt := 62) dX7_axis_57 (by decide) ?_
              exact J_ret (r := some (.int _)) dX7_axis_62 ⟨rfl, _, rfl, rfl⟩ (⟨⟨_, rfl, (by (try simp only [he14.eq, true_and, and_true]) <;> omega), (by (try simp only [he14.eq, true_and, and_true]) <;> omega)⟩, rfl⟩)
        · refine Jz_iconst 1 dX7_axis_37 (by decide) (fun y37 he37 => ?_)
          refine J_goto (tgt := 42) dX7_axis_38 (by decide) ?_
          refine J_iload_n dX7_axis_42 rfl ?_
          refine Jz_iconst 2 dX7_axis_43 (by decide) (fun y43 he43 => ?_)
          refine Jz_iremw he43 dX7_axis_44 (by omega) (fun y44  => ?_)
          refine Jz_if_ne (tgt := 52) jEq.rf dX7_axis_45 (by decide) (fun c45 => ?_) (fun c45 => ?_)
          · refine Jz_iconst 0 dX7_axis_52 (by decide) (fun y52 he52 => ?_)
            refine Jz_icmp_ne (tgt := 60) he37 he52 dX7_axis_53 (by decide) (fun c53 => ?_) (fun c53 => ?_)
            · refine J_iload dX7_axis_60 rfl ?_
              exact J_ret (r := some (.int _)) dX7_axis_62 ⟨rfl, _, rfl, rfl⟩ (⟨⟨_, rfl, (by (try simp only [he25.eq, true_and, and_true]) <;> omega), (by (try simp only [he25.eq, true_and, and_true]) <;> omega)⟩, rfl⟩)
            · refine J_iload_n dX7_axis_56 rfl ?_
              refine J_goto (tgt := 62) dX7_axis_57 (by decide) ?_
              exact J_ret (r := some (.int _)) dX7_axis_62 ⟨rfl, _, rfl, rfl⟩ (⟨⟨_, rfl, (by (try simp only [he14.eq, true_and, and_true]) <;> omega), (by (try simp only [he14.eq, true_and, and_true]) <;> omega)⟩, rfl⟩)
          · refine Jz_iconst 1 dX7_axis_48 (by decide) (fun y48 he48 => ?_)
            refine J_goto (tgt := 53) dX7_axis_49 (by decide) ?_
            refine Jz_icmp_ne (tgt := 60) he37 he48 dX7_axis_53 (by decide) (fun c53 => ?_) (fun c53 => ?_)
            · refine J_iload dX7_axis_60 rfl ?_
              exact J_ret (r := some (.int _)) dX7_axis_62 ⟨rfl, _, rfl, rfl⟩ (⟨⟨_, rfl, (by (try simp only [he25.eq, true_and, and_true]) <;> omega), (by (try simp only [he25.eq, true_and, and_true]) <;> omega)⟩, rfl⟩)
            · refine J_iload_n dX7_axis_56 rfl ?_
              refine J_goto (tgt := 62) dX7_axis_57 (by decide) ?_
              exact J_ret (r := some (.int _)) dX7_axis_62 ⟨rfl, _, rfl, rfl⟩ (⟨⟨_, rfl, (by (try simp only [he14.eq, true_and, and_true]) <;> omega), (by (try simp only [he14.eq, true_and, and_true]) <;> omega)⟩, rfl⟩)
  · refine J_iload_n dX7_axis_8 rfl ?_
    exact J_ret (r := some (.int _)) dX7_axis_9 ⟨rfl, _, rfl, rfl⟩ (⟨⟨_, rfl, (by (try simp only [he2.eq, true_and, and_true]) <;> omega), (by (try simp only [he2.eq, true_and, and_true]) <;> omega)⟩, rfl⟩)
set_option maxRecDepth 100000 in
set_option maxHeartbeats 8000000 in
theorem w_X7_turned {tS : jTS} (d : Nat) (V0 : jH) (x0 : Int32) (x1 : Int32) (x2 : Int32) (hd : 1 ≤ d)   : jTot tS mX7_turned d [.int x0, .int x1, .int x2] V0 0 0 (fun r V => (fun r _ => ∃ y : Int32, r = some (.int y) ∧ ((-2147483648) ≤ y.toInt) ∧ (y.toInt ≤ 2147483647)) r V ∧ V = V0) := by
  refine jTot.of_J [some (.int x0), some (.int x1), some (.int x2), none, none] moX7_turned (Nat.le_of_ble_eq_true rfl) rfl ?_
  have hrx0 := j_rng x0
  have hrx1 := j_rng x1
  have hrx2 := j_rng x2
  refine J_iload_n dX7_turned_0 rfl ?_
  refine Jz_if_ne (tgt := 23) jEq.rf dX7_turned_1 (by decide) (fun c1 => ?_) (fun c1 => ?_)
  · refine J_iload_n dX7_turned_23 rfl ?_
    refine Jz_iconst 1 dX7_turned_24 (by decide) (fun y24 he24 => ?_)
    refine Jz_icmp_ne (tgt := 50) jEq.rf he24 dX7_turned_25 (by decide) (fun c25 => ?_) (fun c25 => ?_)
    · refine J_iload_n dX7_turned_50 rfl ?_
      refine Jz_iconst 3 dX7_turned_51 (by decide) (fun y51 he51 => ?_)
      refine Jz_iremw he51 dX7_turned_52 (by omega) (fun y52  => ?_)
      refine J_istore_n dX7_turned_53 rfl (by decide) ?_
      refine J_iload_n dX7_turned_54 rfl ?_
      refine Jz_iconst 2 dX7_turned_55 (by decide) (fun y55 he55 => ?_)
      refine Jz_icmp_le (tgt := 63) jEq.rf he55 dX7_turned_56 (by decide) (fun c56 => ?_) (fun c56 => ?_)
      · refine Jz_iconst 0 dX7_turned_63 (by decide) (fun y63 he63 => ?_)
        refine J_iload_n dX7_turned_64 rfl ?_
        refine Jz_bipush 8 dX7_turned_65 (by decide) (fun y65 he65 => ?_)
        refine Jz_iremw he65 dX7_turned_67 (by omega) (fun y67  => ?_)
        refine J_iload_n dX7_turned_68 rfl ?_
        refine Jz_ishrw dX7_turned_69 (fun y69  => ?_)
        refine Jz_iconst 1 dX7_turned_70 (by decide) (fun y70 he70 => ?_)
        refine Jz_iandw dX7_turned_71 (fun y71  => ?_)
        refine Jz_iconst 1 dX7_turned_72 (by decide) (fun y72 he72 => ?_)
        refine Jz_icmp_ne (tgt := 80) jEq.rf he72 dX7_turned_73 (by decide) (fun c73 => ?_) (fun c73 => ?_)
        · refine Jz_iconst 0 dX7_turned_80 (by decide) (fun y80 he80 => ?_)
          refine Jz_icmp_eq (tgt := 88) he63 he80 dX7_turned_81 (by decide) (fun c81 => ?_) (fun c81 => ?_)
          · refine Jz_iconst 0 dX7_turned_88 (by decide) (fun y88 he88 => ?_)
            refine J_istore dX7_turned_89 rfl (by decide) ?_
            refine J_iload_n dX7_turned_91 rfl ?_
            refine Jz_bipush 8 dX7_turned_92 (by decide) (fun y92 he92 => ?_)
            refine Jz_idivw he92 dX7_turned_94 (by omega) (fun y94  => ?_)
            refine J_iload_n dX7_turned_95 rfl ?_
            refine J_callS2 moX7_axis jw_ml_X7_98 jw_st_X7_axis dX7_turned_96 (w_X7_axis (d - 1) _ y94 y52 (by omega)   ) (by omega) (Nat.zero_le _) (Nat.zero_le _) (Nat.le_of_ble_eq_true rfl) (fun r96 V96 h96 => ?_)
            obtain ⟨⟨y96, rfl, hl96, hh96⟩, hE96⟩ := h96
            have hE96 := hE96.symm
            subst hE96
            clear hl96 hh96
            refine J_iload dX7_turned_99 rfl ?_
            refine Jz_if_eq (tgt := 108) he88 dX7_turned_101 (by decide) (fun c101 => ?_) (fun c101 => ?_)
            · refine Jz_iconst 0 dX7_turned_108 (by decide) (fun y108 he108 => ?_)
              refine Jz_iaddw dX7_turned_109 (fun y109  => ?_)
              exact J_ret (r := some (.int _)) dX7_turned_110 ⟨rfl, _, rfl, rfl⟩ (⟨⟨_, rfl, (j_rng _).1, (j_rng _).2⟩, rfl⟩)
            · refine Jz_iconst 3 dX7_turned_104 (by decide) (fun y104 he104 => ?_)
              refine J_goto (tgt := 109) dX7_turned_105 (by decide) ?_
              refine Jz_iaddw dX7_turned_109 (fun y109  => ?_)
              exact J_ret (r := some (.int _)) dX7_turned_110 ⟨rfl, _, rfl, rfl⟩ (⟨⟨_, rfl, (j_rng _).1, (j_rng _).2⟩, rfl⟩)
          · refine Jz_iconst 1 dX7_turned_84 (by decide) (fun y84 he84 => ?_)
            refine J_goto (tgt := 89) dX7_turned_85 (by decide) ?_
            refine J_istore dX7_turned_89 rfl (by decide) ?_
            refine J_iload_n dX7_turned_91 rfl ?_
            refine Jz_bipush 8 dX7_turned_92 (by decide) (fun y92 he92 => ?_)
            refine Jz_idivw he92 dX7_turned_94 (by omega) (fun y94  => ?_)
            refine J_iload_n dX7_turned_95 rfl ?_
            refine J_callS2 moX7_axis jw_ml_X7_98 jw_st_X7_axis dX7_turned_96 (w_X7_axis (d - 1) _ y94 y52 (by omega)   ) (by omega) (Nat.zero_le _) (Nat.zero_le _) (Nat.le_of_ble_eq_true rfl) (fun r96 V96 h96 => ?_)
            obtain ⟨⟨y96, rfl, hl96, hh96⟩, hE96⟩ := h96
            have hE96 := hE96.symm
            subst hE96
            clear hl96 hh96
            refine J_iload dX7_turned_99 rfl ?_
            refine Jz_if_eq (tgt := 108) he84 dX7_turned_101 (by decide) (fun c101 => ?_) (fun c101 => ?_)
            · refine Jz_iconst 0 dX7_turned_108 (by decide) (fun y108 he108 => ?_)
              refine Jz_iaddw dX7_turned_109 (fun y109  => ?_)
              exact J_ret (r := some (.int _)) dX7_turned_110 ⟨rfl, _, rfl, rfl⟩ (⟨⟨_, rfl, (j_rng _).1, (j_rng _).2⟩, rfl⟩)
            · refine Jz_iconst 3 dX7_turned_104 (by decide) (fun y104 he104 => ?_)
              refine J_goto (tgt := 109) dX7_turned_105 (by decide) ?_
              refine Jz_iaddw dX7_turned_109 (fun y109  => ?_)
              exact J_ret (r := some (.int _)) dX7_turned_110 ⟨rfl, _, rfl, rfl⟩ (⟨⟨_, rfl, (j_rng _).1, (j_rng _).2⟩, rfl⟩)
        · refine Jz_iconst 1 dX7_turned_76 (by decide) (fun y76 he76 => ?_)
          refine J_goto (tgt := 81) dX7_turned_77 (by decide) ?_
          refine Jz_icmp_eq (tgt := 88) he63 he76 dX7_turned_81 (by decide) (fun c81 => ?_) (fun c81 => ?_)
          · refine Jz_iconst 0 dX7_turned_88 (by decide) (fun y88 he88 => ?_)
            refine J_istore dX7_turned_89 rfl (by decide) ?_
            refine J_iload_n dX7_turned_91 rfl ?_
            refine Jz_bipush 8 dX7_turned_92 (by decide) (fun y92 he92 => ?_)
            refine Jz_idivw he92 dX7_turned_94 (by omega) (fun y94  => ?_)
            refine J_iload_n dX7_turned_95 rfl ?_
            refine J_callS2 moX7_axis jw_ml_X7_98 jw_st_X7_axis dX7_turned_96 (w_X7_axis (d - 1) _ y94 y52 (by omega)   ) (by omega) (Nat.zero_le _) (Nat.zero_le _) (Nat.le_of_ble_eq_true rfl) (fun r96 V96 h96 => ?_)
            obtain ⟨⟨y96, rfl, hl96, hh96⟩, hE96⟩ := h96
            have hE96 := hE96.symm
            subst hE96
            clear hl96 hh96
            refine J_iload dX7_turned_99 rfl ?_
            refine Jz_if_eq (tgt := 108) he88 dX7_turned_101 (by decide) (fun c101 => ?_) (fun c101 => ?_)
            · refine Jz_iconst 0 dX7_turned_108 (by decide) (fun y108 he108 => ?_)
              refine Jz_iaddw dX7_turned_109 (fun y109  => ?_)
              exact J_ret (r := some (.int _)) dX7_turned_110 ⟨rfl, _, rfl, rfl⟩ (⟨⟨_, rfl, (j_rng _).1, (j_rng _).2⟩, rfl⟩)
            · refine Jz_iconst 3 dX7_turned_104 (by decide) (fun y104 he104 => ?_)
              refine J_goto (tgt := 109) dX7_turned_105 (by decide) ?_
              refine Jz_iaddw dX7_turned_109 (fun y109  => ?_)
              exact J_ret (r := some (.int _)) dX7_turned_110 ⟨rfl, _, rfl, rfl⟩ (⟨⟨_, rfl, (j_rng _).1, (j_rng _).2⟩, rfl⟩)
          · refine Jz_iconst 1 dX7_turned_84 (by decide) (fun y84 he84 => ?_)
            refine J_goto (tgt := 89) dX7_turned_85 (by decide) ?_
            refine J_istore dX7_turned_89 rfl (by decide) ?_
            refine J_iload_n dX7_turned_91 rfl ?_
            refine Jz_bipush 8 dX7_turned_92 (by decide) (fun y92 he92 => ?_)
            refine Jz_idivw he92 dX7_turned_94 (by omega) (fun y94  => ?_)
            refine J_iload_n dX7_turned_95 rfl ?_
            refine J_callS2 moX7_axis jw_ml_X7_98 jw_st_X7_axis dX7_turned_96 (w_X7_axis (d - 1) _ y94 y52 (by omega)   ) (by omega) (Nat.zero_le _) (Nat.zero_le _) (Nat.le_of_ble_eq_true rfl) (fun r96 V96 h96 => ?_)
            obtain ⟨⟨y96, rfl, hl96, hh96⟩, hE96⟩ := h96
            have hE96 := hE96.symm
            subst hE96
            clear hl96 hh96
            refine J_iload dX7_turned_99 rfl ?_
            refine Jz_if_eq (tgt := 108) he84 dX7_turned_101 (by decide) (fun c101 => ?_) (fun c101 => ?_)
            · refine Jz_iconst 0 dX7_turned_108 (by decide) (fun y108 he108 => ?_)
              refine Jz_iaddw dX7_turned_109 (fun y109  => ?_)
              exact J_ret (r := some (.int _)) dX7_turned_110 ⟨rfl, _, rfl, rfl⟩ (⟨⟨_, rfl, (j_rng _).1, (j_rng _).2⟩, rfl⟩)
            · refine Jz_iconst 3 dX7_turned_104 (by decide) (fun y104 he104 => ?_)
              refine J_goto (tgt := 109) dX7_turned_105 (by decide) ?_
              refine Jz_iaddw dX7_turned_109 (fun y109  => ?_)
              exact J_ret (r := some (.int _)) dX7_turned_110 ⟨rfl, _, rfl, rfl⟩ (⟨⟨_, rfl, (j_rng _).1, (j_rng _).2⟩, rfl⟩)
      · refine Jz_iconst 1 dX7_turned_59 (by decide) (fun y59 he59 => ?_)
        refine J_goto (tgt := 64) dX7_turned_60 (by decide) ?_
        refine J_iload_n dX7_turned_64 rfl ?_
        refine Jz_bipush 8 dX7_turned_65 (by decide) (fun y65 he65 => ?_)
        refine Jz_iremw he65 dX7_turned_67 (by omega) (fun y67  => ?_)
        refine J_iload_n dX7_turned_68 rfl ?_
        refine Jz_ishrw dX7_turned_69 (fun y69  => ?_)
        refine Jz_iconst 1 dX7_turned_70 (by decide) (fun y70 he70 => ?_)
        refine Jz_iandw dX7_turned_71 (fun y71  => ?_)
        refine Jz_iconst 1 dX7_turned_72 (by decide) (fun y72 he72 => ?_)
        refine Jz_icmp_ne (tgt := 80) jEq.rf he72 dX7_turned_73 (by decide) (fun c73 => ?_) (fun c73 => ?_)
        · refine Jz_iconst 0 dX7_turned_80 (by decide) (fun y80 he80 => ?_)
          refine Jz_icmp_eq (tgt := 88) he59 he80 dX7_turned_81 (by decide) (fun c81 => ?_) (fun c81 => ?_)
          · refine Jz_iconst 0 dX7_turned_88 (by decide) (fun y88 he88 => ?_)
            refine J_istore dX7_turned_89 rfl (by decide) ?_
            refine J_iload_n dX7_turned_91 rfl ?_
            refine Jz_bipush 8 dX7_turned_92 (by decide) (fun y92 he92 => ?_)
            refine Jz_idivw he92 dX7_turned_94 (by omega) (fun y94  => ?_)
            refine J_iload_n dX7_turned_95 rfl ?_
            refine J_callS2 moX7_axis jw_ml_X7_98 jw_st_X7_axis dX7_turned_96 (w_X7_axis (d - 1) _ y94 y52 (by omega)   ) (by omega) (Nat.zero_le _) (Nat.zero_le _) (Nat.le_of_ble_eq_true rfl) (fun r96 V96 h96 => ?_)
            obtain ⟨⟨y96, rfl, hl96, hh96⟩, hE96⟩ := h96
            have hE96 := hE96.symm
            subst hE96
            clear hl96 hh96
            refine J_iload dX7_turned_99 rfl ?_
            refine Jz_if_eq (tgt := 108) he88 dX7_turned_101 (by decide) (fun c101 => ?_) (fun c101 => ?_)
            · refine Jz_iconst 0 dX7_turned_108 (by decide) (fun y108 he108 => ?_)
              refine Jz_iaddw dX7_turned_109 (fun y109  => ?_)
              exact J_ret (r := some (.int _)) dX7_turned_110 ⟨rfl, _, rfl, rfl⟩ (⟨⟨_, rfl, (j_rng _).1, (j_rng _).2⟩, rfl⟩)
            · refine Jz_iconst 3 dX7_turned_104 (by decide) (fun y104 he104 => ?_)
              refine J_goto (tgt := 109) dX7_turned_105 (by decide) ?_
              refine Jz_iaddw dX7_turned_109 (fun y109  => ?_)
              exact J_ret (r := some (.int _)) dX7_turned_110 ⟨rfl, _, rfl, rfl⟩ (⟨⟨_, rfl, (j_rng _).1, (j_rng _).2⟩, rfl⟩)
          · refine Jz_iconst 1 dX7_turned_84 (by decide) (fun y84 he84 => ?_)
            refine J_goto (tgt := 89) dX7_turned_85 (by decide) ?_
            refine J_istore dX7_turned_89 rfl (by decide) ?_
            refine J_iload_n dX7_turned_91 rfl ?_
            refine Jz_bipush 8 dX7_turned_92 (by decide) (fun y92 he92 => ?_)
            refine Jz_idivw he92 dX7_turned_94 (by omega) (fun y94  => ?_)
            refine J_iload_n dX7_turned_95 rfl ?_
            refine J_callS2 moX7_axis jw_ml_X7_98 jw_st_X7_axis dX7_turned_96 (w_X7_axis (d - 1) _ y94 y52 (by omega)   ) (by omega) (Nat.zero_le _) (Nat.zero_le _) (Nat.le_of_ble_eq_true rfl) (fun r96 V96 h96 => ?_)
            obtain ⟨⟨y96, rfl, hl96, hh96⟩, hE96⟩ := h96
            have hE96 := hE96.symm
            subst hE96
            clear hl96 hh96
            refine J_iload dX7_turned_99 rfl ?_
            refine Jz_if_eq (tgt := 108) he84 dX7_turned_101 (by decide) (fun c101 => ?_) (fun c101 => ?_)
            · refine Jz_iconst 0 dX7_turned_108 (by decide) (fun y108 he108 => ?_)
              refine Jz_iaddw dX7_turned_109 (fun y109  => ?_)
              exact J_ret (r := some (.int _)) dX7_turned_110 ⟨rfl, _, rfl, rfl⟩ (⟨⟨_, rfl, (j_rng _).1, (j_rng _).2⟩, rfl⟩)
            · refine Jz_iconst 3 dX7_turned_104 (by decide) (fun y104 he104 => ?_)
              refine J_goto (tgt := 109) dX7_turned_105 (by decide) ?_
              refine Jz_iaddw dX7_turned_109 (fun y109  => ?_)
              exact J_ret (r := some (.int _)) dX7_turned_110 ⟨rfl, _, rfl, rfl⟩ (⟨⟨_, rfl, (j_rng _).1, (j_rng _).2⟩, rfl⟩)
        · refine Jz_iconst 1 dX7_turned_76 (by decide) (fun y76 he76 => ?_)
          refine J_goto (tgt := 81) dX7_turned_77 (by decide) ?_
          refine Jz_icmp_eq (tgt := 88) he59 he76 dX7_turned_81 (by decide) (fun c81 => ?_) (fun c81 => ?_)
          · refine Jz_iconst 0 dX7_turned_88 (by decide) (fun y88 he88 => ?_)
            refine J_istore dX7_turned_89 rfl (by decide) ?_
            refine J_iload_n dX7_turned_91 rfl ?_
            refine Jz_bipush 8 dX7_turned_92 (by decide) (fun y92 he92 => ?_)
            refine Jz_idivw he92 dX7_turned_94 (by omega) (fun y94  => ?_)
            refine J_iload_n dX7_turned_95 rfl ?_
            refine J_callS2 moX7_axis jw_ml_X7_98 jw_st_X7_axis dX7_turned_96 (w_X7_axis (d - 1) _ y94 y52 (by omega)   ) (by omega) (Nat.zero_le _) (Nat.zero_le _) (Nat.le_of_ble_eq_true rfl) (fun r96 V96 h96 => ?_)
            obtain ⟨⟨y96, rfl, hl96, hh96⟩, hE96⟩ := h96
            have hE96 := hE96.symm
            subst hE96
            clear hl96 hh96
            refine J_iload dX7_turned_99 rfl ?_
            refine Jz_if_eq (tgt := 108) he88 dX7_turned_101 (by decide) (fun c101 => ?_) (fun c101 => ?_)
            · refine Jz_iconst 0 dX7_turned_108 (by decide) (fun y108 he108 => ?_)
              refine Jz_iaddw dX7_turned_109 (fun y109  => ?_)
              exact J_ret (r := some (.int _)) dX7_turned_110 ⟨rfl, _, rfl, rfl⟩ (⟨⟨_, rfl, (j_rng _).1, (j_rng _).2⟩, rfl⟩)
            · refine Jz_iconst 3 dX7_turned_104 (by decide) (fun y104 he104 => ?_)
              refine J_goto (tgt := 109) dX7_turned_105 (by decide) ?_
              refine Jz_iaddw dX7_turned_109 (fun y109  => ?_)
              exact J_ret (r := some (.int _)) dX7_turned_110 ⟨rfl, _, rfl, rfl⟩ (⟨⟨_, rfl, (j_rng _).1, (j_rng _).2⟩, rfl⟩)
          · refine Jz_iconst 1 dX7_turned_84 (by decide) (fun y84 he84 => ?_)
            refine J_goto (tgt := 89) dX7_turned_85 (by decide) ?_
            refine J_istore dX7_turned_89 rfl (by decide) ?_
            refine J_iload_n dX7_turned_91 rfl ?_
            refine Jz_bipush 8 dX7_turned_92 (by decide) (fun y92 he92 => ?_)
            refine Jz_idivw he92 dX7_turned_94 (by omega) (fun y94  => ?_)
            refine J_iload_n dX7_turned_95 rfl ?_
            refine J_callS2 moX7_axis jw_ml_X7_98 jw_st_X7_axis dX7_turned_96 (w_X7_axis (d - 1) _ y94 y52 (by omega)   ) (by omega) (Nat.zero_le _) (Nat.zero_le _) (Nat.le_of_ble_eq_true rfl) (fun r96 V96 h96 => ?_)
            obtain ⟨⟨y96, rfl, hl96, hh96⟩, hE96⟩ := h96
            have hE96 := hE96.symm
            subst hE96
            clear hl96 hh96
            refine J_iload dX7_turned_99 rfl ?_
            refine Jz_if_eq (tgt := 108) he84 dX7_turned_101 (by decide) (fun c101 => ?_) (fun c101 => ?_)
            · refine Jz_iconst 0 dX7_turned_108 (by decide) (fun y108 he108 => ?_)
              refine Jz_iaddw dX7_turned_109 (fun y109  => ?_)
              exact J_ret (r := some (.int _)) dX7_turned_110 ⟨rfl, _, rfl, rfl⟩ (⟨⟨_, rfl, (j_rng _).1, (j_rng _).2⟩, rfl⟩)
            · refine Jz_iconst 3 dX7_turned_104 (by decide) (fun y104 he104 => ?_)
              refine J_goto (tgt := 109) dX7_turned_105 (by decide) ?_
              refine Jz_iaddw dX7_turned_109 (fun y109  => ?_)
              exact J_ret (r := some (.int _)) dX7_turned_110 ⟨rfl, _, rfl, rfl⟩ (⟨⟨_, rfl, (j_rng _).1, (j_rng _).2⟩, rfl⟩)
    · refine J_iload_n dX7_turned_28 rfl ?_
      refine Jz_bipush 6 dX7_turned_29 (by decide) (fun y29 he29 => ?_)
      refine Jz_icmp_ge (tgt := 43) jEq.rf he29 dX7_turned_31 (by decide) (fun c31 => ?_) (fun c31 => ?_)
      · refine J_iload_n dX7_turned_43 rfl ?_
        refine J_iload_n dX7_turned_44 rfl ?_
        refine Jz_isubw dX7_turned_45 (fun y45  => ?_)
        refine Jz_bipush 6 dX7_turned_46 (by decide) (fun y46 he46 => ?_)
        refine Jz_iremw he46 dX7_turned_48 (by omega) (fun y48  => ?_)
        exact J_ret (r := some (.int _)) dX7_turned_49 ⟨rfl, _, rfl, rfl⟩ (⟨⟨_, rfl, (j_rng _).1, (j_rng _).2⟩, rfl⟩)
      · refine J_iload_n dX7_turned_34 rfl ?_
        refine J_iload_n dX7_turned_35 rfl ?_
        refine Jz_iaddw dX7_turned_36 (fun y36  => ?_)
        refine Jz_bipush 6 dX7_turned_37 (by decide) (fun y37 he37 => ?_)
        refine Jz_iremw he37 dX7_turned_39 (by omega) (fun y39  => ?_)
        refine J_goto (tgt := 49) dX7_turned_40 (by decide) ?_
        exact J_ret (r := some (.int _)) dX7_turned_49 ⟨rfl, _, rfl, rfl⟩ (⟨⟨_, rfl, (j_rng _).1, (j_rng _).2⟩, rfl⟩)
  · refine J_iload_n dX7_turned_4 rfl ?_
    refine Jz_iconst 4 dX7_turned_5 (by decide) (fun y5 he5 => ?_)
    refine Jz_icmp_ge (tgt := 17) jEq.rf he5 dX7_turned_6 (by decide) (fun c6 => ?_) (fun c6 => ?_)
    · refine J_iload_n dX7_turned_17 rfl ?_
      refine J_iload_n dX7_turned_18 rfl ?_
      refine Jz_isubw dX7_turned_19 (fun y19  => ?_)
      refine Jz_iconst 4 dX7_turned_20 (by decide) (fun y20 he20 => ?_)
      refine Jz_iremw he20 dX7_turned_21 (by omega) (fun y21  => ?_)
      exact J_ret (r := some (.int _)) dX7_turned_22 ⟨rfl, _, rfl, rfl⟩ (⟨⟨_, rfl, (j_rng _).1, (j_rng _).2⟩, rfl⟩)
    · refine J_iload_n dX7_turned_9 rfl ?_
      refine J_iload_n dX7_turned_10 rfl ?_
      refine Jz_iaddw dX7_turned_11 (fun y11  => ?_)
      refine Jz_iconst 4 dX7_turned_12 (by decide) (fun y12 he12 => ?_)
      refine Jz_iremw he12 dX7_turned_13 (by omega) (fun y13  => ?_)
      refine J_goto (tgt := 22) dX7_turned_14 (by decide) ?_
      exact J_ret (r := some (.int _)) dX7_turned_22 ⟨rfl, _, rfl, rfl⟩ (⟨⟨_, rfl, (j_rng _).1, (j_rng _).2⟩, rfl⟩)
set_option maxRecDepth 100000 in
set_option maxHeartbeats 8000000 in
theorem w_X7_turned_in {tS : jTS} (d : Nat) (V0 : jH) (x0 : Int32) (x1 : Int32) (x2 : Int32) (hd : 1 ≤ d)  (hp0 : 0 ≤ x1.toInt) (hp1 : x1.toInt < jtur x0.toInt) (hp2 : 0 ≤ x2.toInt) (hp3 : x2.toInt < jdir x0.toInt) : jTot tS mX7_turned d [.int x0, .int x1, .int x2] V0 0 0 (fun r V => (fun r _ => ∃ y : Int32, r = some (.int y) ∧ (0 ≤ y.toInt) ∧ (y.toInt ≤ 5) ∧ (y.toInt < jdir x0.toInt)) r V ∧ V = V0) := by
  refine jTot.of_J [some (.int x0), some (.int x1), some (.int x2), none, none] moX7_turned (Nat.le_of_ble_eq_true rfl) rfl ?_
  have hrx0 := j_rng x0
  have hrx1 := j_rng x1
  have hrx2 := j_rng x2
  have hjd := jdir_cases x0.toInt
  have hjt := jtur_cases x0.toInt
  refine J_iload_n dX7_turned_0 rfl ?_
  refine Jz_if_ne (tgt := 23) jEq.rf dX7_turned_1 (by decide) (fun c1 => ?_) (fun c1 => ?_)
  · refine J_iload_n dX7_turned_23 rfl ?_
    refine Jz_iconst 1 dX7_turned_24 (by decide) (fun y24 he24 => ?_)
    refine Jz_icmp_ne (tgt := 50) jEq.rf he24 dX7_turned_25 (by decide) (fun c25 => ?_) (fun c25 => ?_)
    · refine J_iload_n dX7_turned_50 rfl ?_
      refine Jz_iconst 3 dX7_turned_51 (by decide) (fun y51 he51 => ?_)
      refine Jz_iremw he51 dX7_turned_52 (by omega) (fun y52  => ?_)
      refine J_istore_n dX7_turned_53 rfl (by decide) ?_
      refine J_iload_n dX7_turned_54 rfl ?_
      refine Jz_iconst 2 dX7_turned_55 (by decide) (fun y55 he55 => ?_)
      refine Jz_icmp_le (tgt := 63) jEq.rf he55 dX7_turned_56 (by decide) (fun c56 => ?_) (fun c56 => ?_)
      · refine Jz_iconst 0 dX7_turned_63 (by decide) (fun y63 he63 => ?_)
        refine J_iload_n dX7_turned_64 rfl ?_
        refine Jz_bipush 8 dX7_turned_65 (by decide) (fun y65 he65 => ?_)
        refine Jz_iremw he65 dX7_turned_67 (by omega) (fun y67  => ?_)
        refine J_iload_n dX7_turned_68 rfl ?_
        refine Jz_ishrw dX7_turned_69 (fun y69  => ?_)
        refine Jz_iconst 1 dX7_turned_70 (by decide) (fun y70 he70 => ?_)
        refine Jz_iandw dX7_turned_71 (fun y71  => ?_)
        refine Jz_iconst 1 dX7_turned_72 (by decide) (fun y72 he72 => ?_)
        refine Jz_icmp_ne (tgt := 80) jEq.rf he72 dX7_turned_73 (by decide) (fun c73 => ?_) (fun c73 => ?_)
        · refine Jz_iconst 0 dX7_turned_80 (by decide) (fun y80 he80 => ?_)
          refine Jz_icmp_eq (tgt := 88) he63 he80 dX7_turned_81 (by decide) (fun c81 => ?_) (fun c81 => ?_)
          · refine Jz_iconst 0 dX7_turned_88 (by decide) (fun y88 he88 => ?_)
            refine J_istore dX7_turned_89 rfl (by decide) ?_
            refine J_iload_n dX7_turned_91 rfl ?_
            refine Jz_bipush 8 dX7_turned_92 (by decide) (fun y92 he92 => ?_)
            refine Jz_idivC jEq.rf he92 dX7_turned_94 (by omega) (by omega) (fun y94 he94 => ?_)
            refine J_iload_n dX7_turned_95 rfl ?_
            refine J_callS2 moX7_axis jw_ml_X7_98 jw_st_X7_axis dX7_turned_96 (w_X7_axis_in (d - 1) _ y94 y52 (by omega)   (by (try simp only [he94.eq, true_and, and_true]) <;> omega) (by (try simp only [he94.eq, true_and, and_true]) <;> omega)) (by omega) (Nat.zero_le _) (Nat.zero_le _) (Nat.le_of_ble_eq_true rfl) (fun r96 V96 h96 => ?_)
            obtain ⟨⟨y96, rfl, hl96, hh96⟩, hE96⟩ := h96
            have hE96 := hE96.symm
            subst hE96
            refine J_iload dX7_turned_99 rfl ?_
            refine Jz_if_eq (tgt := 108) he88 dX7_turned_101 (by decide) (fun c101 => ?_) (fun c101 => ?_)
            · refine Jz_iconst 0 dX7_turned_108 (by decide) (fun y108 he108 => ?_)
              refine Jz_iadd jEq.rf he108 dX7_turned_109 (by omega) (by omega) (fun y109 he109 => ?_)
              exact J_ret (r := some (.int _)) dX7_turned_110 ⟨rfl, _, rfl, rfl⟩ (⟨⟨_, rfl, (by (try simp only [he109.eq, true_and, and_true]) <;> omega), (by (try simp only [he109.eq, true_and, and_true]) <;> omega), (by (try simp only [he109.eq, true_and, and_true]) <;> omega)⟩, rfl⟩)
            · refine Jz_iconst 3 dX7_turned_104 (by decide) (fun y104 he104 => ?_)
              refine J_goto (tgt := 109) dX7_turned_105 (by decide) ?_
              refine Jz_iadd jEq.rf he104 dX7_turned_109 (by omega) (by omega) (fun y109 he109 => ?_)
              exact J_ret (r := some (.int _)) dX7_turned_110 ⟨rfl, _, rfl, rfl⟩ (⟨⟨_, rfl, (by (try simp only [he109.eq, true_and, and_true]) <;> omega), (by (try simp only [he109.eq, true_and, and_true]) <;> omega), (by (try simp only [he109.eq, true_and, and_true]) <;> omega)⟩, rfl⟩)
          · refine Jz_iconst 1 dX7_turned_84 (by decide) (fun y84 he84 => ?_)
            refine J_goto (tgt := 89) dX7_turned_85 (by decide) ?_
            refine J_istore dX7_turned_89 rfl (by decide) ?_
            refine J_iload_n dX7_turned_91 rfl ?_
            refine Jz_bipush 8 dX7_turned_92 (by decide) (fun y92 he92 => ?_)
            refine Jz_idivC jEq.rf he92 dX7_turned_94 (by omega) (by omega) (fun y94 he94 => ?_)
            refine J_iload_n dX7_turned_95 rfl ?_
            refine J_callS2 moX7_axis jw_ml_X7_98 jw_st_X7_axis dX7_turned_96 (w_X7_axis_in (d - 1) _ y94 y52 (by omega)   (by (try simp only [he94.eq, true_and, and_true]) <;> omega) (by (try simp only [he94.eq, true_and, and_true]) <;> omega)) (by omega) (Nat.zero_le _) (Nat.zero_le _) (Nat.le_of_ble_eq_true rfl) (fun r96 V96 h96 => ?_)
            obtain ⟨⟨y96, rfl, hl96, hh96⟩, hE96⟩ := h96
            have hE96 := hE96.symm
            subst hE96
            refine J_iload dX7_turned_99 rfl ?_
            refine Jz_if_eq (tgt := 108) he84 dX7_turned_101 (by decide) (fun c101 => ?_) (fun c101 => ?_)
            · refine Jz_iconst 0 dX7_turned_108 (by decide) (fun y108 he108 => ?_)
              refine Jz_iadd jEq.rf he108 dX7_turned_109 (by omega) (by omega) (fun y109 he109 => ?_)
              exact J_ret (r := some (.int _)) dX7_turned_110 ⟨rfl, _, rfl, rfl⟩ (⟨⟨_, rfl, (by (try simp only [he109.eq, true_and, and_true]) <;> omega), (by (try simp only [he109.eq, true_and, and_true]) <;> omega), (by (try simp only [he109.eq, true_and, and_true]) <;> omega)⟩, rfl⟩)
            · refine Jz_iconst 3 dX7_turned_104 (by decide) (fun y104 he104 => ?_)
              refine J_goto (tgt := 109) dX7_turned_105 (by decide) ?_
              refine Jz_iadd jEq.rf he104 dX7_turned_109 (by omega) (by omega) (fun y109 he109 => ?_)
              exact J_ret (r := some (.int _)) dX7_turned_110 ⟨rfl, _, rfl, rfl⟩ (⟨⟨_, rfl, (by (try simp only [he109.eq, true_and, and_true]) <;> omega), (by (try simp only [he109.eq, true_and, and_true]) <;> omega), (by (try simp only [he109.eq, true_and, and_true]) <;> omega)⟩, rfl⟩)
        · refine Jz_iconst 1 dX7_turned_76 (by decide) (fun y76 he76 => ?_)
          refine J_goto (tgt := 81) dX7_turned_77 (by decide) ?_
          refine Jz_icmp_eq (tgt := 88) he63 he76 dX7_turned_81 (by decide) (fun c81 => ?_) (fun c81 => ?_)
          · refine Jz_iconst 0 dX7_turned_88 (by decide) (fun y88 he88 => ?_)
            refine J_istore dX7_turned_89 rfl (by decide) ?_
            refine J_iload_n dX7_turned_91 rfl ?_
            refine Jz_bipush 8 dX7_turned_92 (by decide) (fun y92 he92 => ?_)
            refine Jz_idivC jEq.rf he92 dX7_turned_94 (by omega) (by omega) (fun y94 he94 => ?_)
            refine J_iload_n dX7_turned_95 rfl ?_
            refine J_callS2 moX7_axis jw_ml_X7_98 jw_st_X7_axis dX7_turned_96 (w_X7_axis_in (d - 1) _ y94 y52 (by omega)   (by (try simp only [he94.eq, true_and, and_true]) <;> omega) (by (try simp only [he94.eq, true_and, and_true]) <;> omega)) (by omega) (Nat.zero_le _) (Nat.zero_le _) (Nat.le_of_ble_eq_true rfl) (fun r96 V96 h96 => ?_)
            obtain ⟨⟨y96, rfl, hl96, hh96⟩, hE96⟩ := h96
            have hE96 := hE96.symm
            subst hE96
            refine J_iload dX7_turned_99 rfl ?_
            refine Jz_if_eq (tgt := 108) he88 dX7_turned_101 (by decide) (fun c101 => ?_) (fun c101 => ?_)
            · refine Jz_iconst 0 dX7_turned_108 (by decide) (fun y108 he108 => ?_)
              refine Jz_iadd jEq.rf he108 dX7_turned_109 (by omega) (by omega) (fun y109 he109 => ?_)
              exact J_ret (r := some (.int _)) dX7_turned_110 ⟨rfl, _, rfl, rfl⟩ (⟨⟨_, rfl, (by (try simp only [he109.eq, true_and, and_true]) <;> omega), (by (try simp only [he109.eq, true_and, and_true]) <;> omega), (by (try simp only [he109.eq, true_and, and_true]) <;> omega)⟩, rfl⟩)
            · refine Jz_iconst 3 dX7_turned_104 (by decide) (fun y104 he104 => ?_)
              refine J_goto (tgt := 109) dX7_turned_105 (by decide) ?_
              refine Jz_iadd jEq.rf he104 dX7_turned_109 (by omega) (by omega) (fun y109 he109 => ?_)
              exact J_ret (r := some (.int _)) dX7_turned_110 ⟨rfl, _, rfl, rfl⟩ (⟨⟨_, rfl, (by (try simp only [he109.eq, true_and, and_true]) <;> omega), (by (try simp only [he109.eq, true_and, and_true]) <;> omega), (by (try simp only [he109.eq, true_and, and_true]) <;> omega)⟩, rfl⟩)
          · refine Jz_iconst 1 dX7_turned_84 (by decide) (fun y84 he84 => ?_)
            refine J_goto (tgt := 89) dX7_turned_85 (by decide) ?_
            refine J_istore dX7_turned_89 rfl (by decide) ?_
            refine J_iload_n dX7_turned_91 rfl ?_
            refine Jz_bipush 8 dX7_turned_92 (by decide) (fun y92 he92 => ?_)
            refine Jz_idivC jEq.rf he92 dX7_turned_94 (by omega) (by omega) (fun y94 he94 => ?_)
            refine J_iload_n dX7_turned_95 rfl ?_
            refine J_callS2 moX7_axis jw_ml_X7_98 jw_st_X7_axis dX7_turned_96 (w_X7_axis_in (d - 1) _ y94 y52 (by omega)   (by (try simp only [he94.eq, true_and, and_true]) <;> omega) (by (try simp only [he94.eq, true_and, and_true]) <;> omega)) (by omega) (Nat.zero_le _) (Nat.zero_le _) (Nat.le_of_ble_eq_true rfl) (fun r96 V96 h96 => ?_)
            obtain ⟨⟨y96, rfl, hl96, hh96⟩, hE96⟩ := h96
            have hE96 := hE96.symm
            subst hE96
            refine J_iload dX7_turned_99 rfl ?_
            refine Jz_if_eq (tgt := 108) he84 dX7_turned_101 (by decide) (fun c101 => ?_) (fun c101 => ?_)
            · refine Jz_iconst 0 dX7_turned_108 (by decide) (fun y108 he108 => ?_)
              refine Jz_iadd jEq.rf he108 dX7_turned_109 (by omega) (by omega) (fun y109 he109 => ?_)
              exact J_ret (r := some (.int _)) dX7_turned_110 ⟨rfl, _, rfl, rfl⟩ (⟨⟨_, rfl, (by (try simp only [he109.eq, true_and, and_true]) <;> omega), (by (try simp only [he109.eq, true_and, and_true]) <;> omega), (by (try simp only [he109.eq, true_and, and_true]) <;> omega)⟩, rfl⟩)
            · refine Jz_iconst 3 dX7_turned_104 (by decide) (fun y104 he104 => ?_)
              refine J_goto (tgt := 109) dX7_turned_105 (by decide) ?_
              refine Jz_iadd jEq.rf he104 dX7_turned_109 (by omega) (by omega) (fun y109 he109 => ?_)
              exact J_ret (r := some (.int _)) dX7_turned_110 ⟨rfl, _, rfl, rfl⟩ (⟨⟨_, rfl, (by (try simp only [he109.eq, true_and, and_true]) <;> omega), (by (try simp only [he109.eq, true_and, and_true]) <;> omega), (by (try simp only [he109.eq, true_and, and_true]) <;> omega)⟩, rfl⟩)
      · refine Jz_iconst 1 dX7_turned_59 (by decide) (fun y59 he59 => ?_)
        refine J_goto (tgt := 64) dX7_turned_60 (by decide) ?_
        refine J_iload_n dX7_turned_64 rfl ?_
        refine Jz_bipush 8 dX7_turned_65 (by decide) (fun y65 he65 => ?_)
        refine Jz_iremw he65 dX7_turned_67 (by omega) (fun y67  => ?_)
        refine J_iload_n dX7_turned_68 rfl ?_
        refine Jz_ishrw dX7_turned_69 (fun y69  => ?_)
        refine Jz_iconst 1 dX7_turned_70 (by decide) (fun y70 he70 => ?_)
        refine Jz_iandw dX7_turned_71 (fun y71  => ?_)
        refine Jz_iconst 1 dX7_turned_72 (by decide) (fun y72 he72 => ?_)
        refine Jz_icmp_ne (tgt := 80) jEq.rf he72 dX7_turned_73 (by decide) (fun c73 => ?_) (fun c73 => ?_)
        · refine Jz_iconst 0 dX7_turned_80 (by decide) (fun y80 he80 => ?_)
          refine Jz_icmp_eq (tgt := 88) he59 he80 dX7_turned_81 (by decide) (fun c81 => ?_) (fun c81 => ?_)
          · refine Jz_iconst 0 dX7_turned_88 (by decide) (fun y88 he88 => ?_)
            refine J_istore dX7_turned_89 rfl (by decide) ?_
            refine J_iload_n dX7_turned_91 rfl ?_
            refine Jz_bipush 8 dX7_turned_92 (by decide) (fun y92 he92 => ?_)
            refine Jz_idivC jEq.rf he92 dX7_turned_94 (by omega) (by omega) (fun y94 he94 => ?_)
            refine J_iload_n dX7_turned_95 rfl ?_
            refine J_callS2 moX7_axis jw_ml_X7_98 jw_st_X7_axis dX7_turned_96 (w_X7_axis_in (d - 1) _ y94 y52 (by omega)   (by (try simp only [he94.eq, true_and, and_true]) <;> omega) (by (try simp only [he94.eq, true_and, and_true]) <;> omega)) (by omega) (Nat.zero_le _) (Nat.zero_le _) (Nat.le_of_ble_eq_true rfl) (fun r96 V96 h96 => ?_)
            obtain ⟨⟨y96, rfl, hl96, hh96⟩, hE96⟩ := h96
            have hE96 := hE96.symm
            subst hE96
            refine J_iload dX7_turned_99 rfl ?_
            refine Jz_if_eq (tgt := 108) he88 dX7_turned_101 (by decide) (fun c101 => ?_) (fun c101 => ?_)
            · refine Jz_iconst 0 dX7_turned_108 (by decide) (fun y108 he108 => ?_)
              refine Jz_iadd jEq.rf he108 dX7_turned_109 (by omega) (by omega) (fun y109 he109 => ?_)
              exact J_ret (r := some (.int _)) dX7_turned_110 ⟨rfl, _, rfl, rfl⟩ (⟨⟨_, rfl, (by (try simp only [he109.eq, true_and, and_true]) <;> omega), (by (try simp only [he109.eq, true_and, and_true]) <;> omega), (by (try simp only [he109.eq, true_and, and_true]) <;> omega)⟩, rfl⟩)
            · refine Jz_iconst 3 dX7_turned_104 (by decide) (fun y104 he104 => ?_)
              refine J_goto (tgt := 109) dX7_turned_105 (by decide) ?_
              refine Jz_iadd jEq.rf he104 dX7_turned_109 (by omega) (by omega) (fun y109 he109 => ?_)
              exact J_ret (r := some (.int _)) dX7_turned_110 ⟨rfl, _, rfl, rfl⟩ (⟨⟨_, rfl, (by (try simp only [he109.eq, true_and, and_true]) <;> omega), (by (try simp only [he109.eq, true_and, and_true]) <;> omega), (by (try simp only [he109.eq, true_and, and_true]) <;> omega)⟩, rfl⟩)
          · refine Jz_iconst 1 dX7_turned_84 (by decide) (fun y84 he84 => ?_)
            refine J_goto (tgt := 89) dX7_turned_85 (by decide) ?_
            refine J_istore dX7_turned_89 rfl (by decide) ?_
            refine J_iload_n dX7_turned_91 rfl ?_
            refine Jz_bipush 8 dX7_turned_92 (by decide) (fun y92 he92 => ?_)
            refine Jz_idivC jEq.rf he92 dX7_turned_94 (by omega) (by omega) (fun y94 he94 => ?_)
            refine J_iload_n dX7_turned_95 rfl ?_
            refine J_callS2 moX7_axis jw_ml_X7_98 jw_st_X7_axis dX7_turned_96 (w_X7_axis_in (d - 1) _ y94 y52 (by omega)   (by (try simp only [he94.eq, true_and, and_true]) <;> omega) (by (try simp only [he94.eq, true_and, and_true]) <;> omega)) (by omega) (Nat.zero_le _) (Nat.zero_le _) (Nat.le_of_ble_eq_true rfl) (fun r96 V96 h96 => ?_)
            obtain ⟨⟨y96, rfl, hl96, hh96⟩, hE96⟩ := h96
            have hE96 := hE96.symm
            subst hE96
            refine J_iload dX7_turned_99 rfl ?_
            refine Jz_if_eq (tgt := 108) he84 dX7_turned_101 (by decide) (fun c101 => ?_) (fun c101 => ?_)
            · refine Jz_iconst 0 dX7_turned_108 (by decide) (fun y108 he108 => ?_)
              refine Jz_iadd jEq.rf he108 dX7_turned_109 (by omega) (by omega) (fun y109 he109 => ?_)
              exact J_ret (r := some (.int _)) dX7_turned_110 ⟨rfl, _, rfl, rfl⟩ (⟨⟨_, rfl, (by (try simp only [he109.eq, true_and, and_true]) <;> omega), (by (try simp only [he109.eq, true_and, and_true]) <;> omega), (by (try simp only [he109.eq, true_and, and_true]) <;> omega)⟩, rfl⟩)
            · refine Jz_iconst 3 dX7_turned_104 (by decide) (fun y104 he104 => ?_)
              refine J_goto (tgt := 109) dX7_turned_105 (by decide) ?_
              refine Jz_iadd jEq.rf he104 dX7_turned_109 (by omega) (by omega) (fun y109 he109 => ?_)
              exact J_ret (r := some (.int _)) dX7_turned_110 ⟨rfl, _, rfl, rfl⟩ (⟨⟨_, rfl, (by (try simp only [he109.eq, true_and, and_true]) <;> omega), (by (try simp only [he109.eq, true_and, and_true]) <;> omega), (by (try simp only [he109.eq, true_and, and_true]) <;> omega)⟩, rfl⟩)
        · refine Jz_iconst 1 dX7_turned_76 (by decide) (fun y76 he76 => ?_)
          refine J_goto (tgt := 81) dX7_turned_77 (by decide) ?_
          refine Jz_icmp_eq (tgt := 88) he59 he76 dX7_turned_81 (by decide) (fun c81 => ?_) (fun c81 => ?_)
          · refine Jz_iconst 0 dX7_turned_88 (by decide) (fun y88 he88 => ?_)
            refine J_istore dX7_turned_89 rfl (by decide) ?_
            refine J_iload_n dX7_turned_91 rfl ?_
            refine Jz_bipush 8 dX7_turned_92 (by decide) (fun y92 he92 => ?_)
            refine Jz_idivC jEq.rf he92 dX7_turned_94 (by omega) (by omega) (fun y94 he94 => ?_)
            refine J_iload_n dX7_turned_95 rfl ?_
            refine J_callS2 moX7_axis jw_ml_X7_98 jw_st_X7_axis dX7_turned_96 (w_X7_axis_in (d - 1) _ y94 y52 (by omega)   (by (try simp only [he94.eq, true_and, and_true]) <;> omega) (by (try simp only [he94.eq, true_and, and_true]) <;> omega)) (by omega) (Nat.zero_le _) (Nat.zero_le _) (Nat.le_of_ble_eq_true rfl) (fun r96 V96 h96 => ?_)
            obtain ⟨⟨y96, rfl, hl96, hh96⟩, hE96⟩ := h96
            have hE96 := hE96.symm
            subst hE96
            refine J_iload dX7_turned_99 rfl ?_
            refine Jz_if_eq (tgt := 108) he88 dX7_turned_101 (by decide) (fun c101 => ?_) (fun c101 => ?_)
            · refine Jz_iconst 0 dX7_turned_108 (by decide) (fun y108 he108 => ?_)
              refine Jz_iadd jEq.rf he108 dX7_turned_109 (by omega) (by omega) (fun y109 he109 => ?_)
              exact J_ret (r := some (.int _)) dX7_turned_110 ⟨rfl, _, rfl, rfl⟩ (⟨⟨_, rfl, (by (try simp only [he109.eq, true_and, and_true]) <;> omega), (by (try simp only [he109.eq, true_and, and_true]) <;> omega), (by (try simp only [he109.eq, true_and, and_true]) <;> omega)⟩, rfl⟩)
            · refine Jz_iconst 3 dX7_turned_104 (by decide) (fun y104 he104 => ?_)
              refine J_goto (tgt := 109) dX7_turned_105 (by decide) ?_
              refine Jz_iadd jEq.rf he104 dX7_turned_109 (by omega) (by omega) (fun y109 he109 => ?_)
              exact J_ret (r := some (.int _)) dX7_turned_110 ⟨rfl, _, rfl, rfl⟩ (⟨⟨_, rfl, (by (try simp only [he109.eq, true_and, and_true]) <;> omega), (by (try simp only [he109.eq, true_and, and_true]) <;> omega), (by (try simp only [he109.eq, true_and, and_true]) <;> omega)⟩, rfl⟩)
          · refine Jz_iconst 1 dX7_turned_84 (by decide) (fun y84 he84 => ?_)
            refine J_goto (tgt := 89) dX7_turned_85 (by decide) ?_
            refine J_istore dX7_turned_89 rfl (by decide) ?_
            refine J_iload_n dX7_turned_91 rfl ?_
            refine Jz_bipush 8 dX7_turned_92 (by decide) (fun y92 he92 => ?_)
            refine Jz_idivC jEq.rf he92 dX7_turned_94 (by omega) (by omega) (fun y94 he94 => ?_)
            refine J_iload_n dX7_turned_95 rfl ?_
            refine J_callS2 moX7_axis jw_ml_X7_98 jw_st_X7_axis dX7_turned_96 (w_X7_axis_in (d - 1) _ y94 y52 (by omega)   (by (try simp only [he94.eq, true_and, and_true]) <;> omega) (by (try simp only [he94.eq, true_and, and_true]) <;> omega)) (by omega) (Nat.zero_le _) (Nat.zero_le _) (Nat.le_of_ble_eq_true rfl) (fun r96 V96 h96 => ?_)
            obtain ⟨⟨y96, rfl, hl96, hh96⟩, hE96⟩ := h96
            have hE96 := hE96.symm
            subst hE96
            refine J_iload dX7_turned_99 rfl ?_
            refine Jz_if_eq (tgt := 108) he84 dX7_turned_101 (by decide) (fun c101 => ?_) (fun c101 => ?_)
            · refine Jz_iconst 0 dX7_turned_108 (by decide) (fun y108 he108 => ?_)
              refine Jz_iadd jEq.rf he108 dX7_turned_109 (by omega) (by omega) (fun y109 he109 => ?_)
              exact J_ret (r := some (.int _)) dX7_turned_110 ⟨rfl, _, rfl, rfl⟩ (⟨⟨_, rfl, (by (try simp only [he109.eq, true_and, and_true]) <;> omega), (by (try simp only [he109.eq, true_and, and_true]) <;> omega), (by (try simp only [he109.eq, true_and, and_true]) <;> omega)⟩, rfl⟩)
            · refine Jz_iconst 3 dX7_turned_104 (by decide) (fun y104 he104 => ?_)
              refine J_goto (tgt := 109) dX7_turned_105 (by decide) ?_
              refine Jz_iadd jEq.rf he104 dX7_turned_109 (by omega) (by omega) (fun y109 he109 => ?_)
              exact J_ret (r := some (.int _)) dX7_turned_110 ⟨rfl, _, rfl, rfl⟩ (⟨⟨_, rfl, (by (try simp only [he109.eq, true_and, and_true]) <;> omega), (by (try simp only [he109.eq, true_and, and_true]) <;> omega), (by (try simp only [he109.eq, true_and, and_true]) <;> omega)⟩, rfl⟩)
    · refine J_iload_n dX7_turned_28 rfl ?_
      refine Jz_bipush 6 dX7_turned_29 (by decide) (fun y29 he29 => ?_)
      refine Jz_icmp_ge (tgt := 43) jEq.rf he29 dX7_turned_31 (by decide) (fun c31 => ?_) (fun c31 => ?_)
      · refine J_iload_n dX7_turned_43 rfl ?_
        refine J_iload_n dX7_turned_44 rfl ?_
        refine Jz_isub jEq.rf jEq.rf dX7_turned_45 (by omega) (by omega) (fun y45 he45 => ?_)
        refine Jz_bipush 6 dX7_turned_46 (by decide) (fun y46 he46 => ?_)
        refine Jz_irem he45 he46 dX7_turned_48 (by omega) (by omega) (fun y48 he48 hf48 => ?_)
        exact J_ret (r := some (.int _)) dX7_turned_49 ⟨rfl, _, rfl, rfl⟩ (⟨⟨_, rfl, (by omega), (by omega), (by omega)⟩, rfl⟩)
      · refine J_iload_n dX7_turned_34 rfl ?_
        refine J_iload_n dX7_turned_35 rfl ?_
        refine Jz_iadd jEq.rf jEq.rf dX7_turned_36 (by omega) (by omega) (fun y36 he36 => ?_)
        refine Jz_bipush 6 dX7_turned_37 (by decide) (fun y37 he37 => ?_)
        refine Jz_irem he36 he37 dX7_turned_39 (by omega) (by omega) (fun y39 he39 hf39 => ?_)
        refine J_goto (tgt := 49) dX7_turned_40 (by decide) ?_
        exact J_ret (r := some (.int _)) dX7_turned_49 ⟨rfl, _, rfl, rfl⟩ (⟨⟨_, rfl, (by omega), (by omega), (by omega)⟩, rfl⟩)
  · refine J_iload_n dX7_turned_4 rfl ?_
    refine Jz_iconst 4 dX7_turned_5 (by decide) (fun y5 he5 => ?_)
    refine Jz_icmp_ge (tgt := 17) jEq.rf he5 dX7_turned_6 (by decide) (fun c6 => ?_) (fun c6 => ?_)
    · refine J_iload_n dX7_turned_17 rfl ?_
      refine J_iload_n dX7_turned_18 rfl ?_
      refine Jz_isub jEq.rf jEq.rf dX7_turned_19 (by omega) (by omega) (fun y19 he19 => ?_)
      refine Jz_iconst 4 dX7_turned_20 (by decide) (fun y20 he20 => ?_)
      refine Jz_irem he19 he20 dX7_turned_21 (by omega) (by omega) (fun y21 he21 hf21 => ?_)
      exact J_ret (r := some (.int _)) dX7_turned_22 ⟨rfl, _, rfl, rfl⟩ (⟨⟨_, rfl, (by omega), (by omega), (by omega)⟩, rfl⟩)
    · refine J_iload_n dX7_turned_9 rfl ?_
      refine J_iload_n dX7_turned_10 rfl ?_
      refine Jz_iadd jEq.rf jEq.rf dX7_turned_11 (by omega) (by omega) (fun y11 he11 => ?_)
      refine Jz_iconst 4 dX7_turned_12 (by decide) (fun y12 he12 => ?_)
      refine Jz_irem he11 he12 dX7_turned_13 (by omega) (by omega) (fun y13 he13 hf13 => ?_)
      refine J_goto (tgt := 22) dX7_turned_14 (by decide) ?_
      exact J_ret (r := some (.int _)) dX7_turned_22 ⟨rfl, _, rfl, rfl⟩ (⟨⟨_, rfl, (by omega), (by omega), (by omega)⟩, rfl⟩)
set_option maxRecDepth 100000 in
set_option maxHeartbeats 8000000 in
theorem w_X7_opposite {tS : jTS} (d : Nat) (V0 : jH) (x0 : Int32) (x1 : Int32) (hd : 0 ≤ d)   : jTot tS mX7_opposite d [.int x0, .int x1] V0 0 0 (fun r V => (fun r _ => ∃ y : Int32, r = some (.int y) ∧ ((-2147483648) ≤ y.toInt) ∧ (y.toInt ≤ 2147483647)) r V ∧ V = V0) := by
  refine jTot.of_J [some (.int x0), some (.int x1)] moX7_opposite (Nat.le_of_ble_eq_true rfl) rfl ?_
  have hrx0 := j_rng x0
  have hrx1 := j_rng x1
  refine J_iload_n dX7_opposite_0 rfl ?_
  refine Jz_if_ne (tgt := 12) jEq.rf dX7_opposite_1 (by decide) (fun c1 => ?_) (fun c1 => ?_)
  · refine J_iload_n dX7_opposite_12 rfl ?_
    refine Jz_iconst 2 dX7_opposite_13 (by decide) (fun y13 he13 => ?_)
    refine Jz_icmp_ne (tgt := 32) jEq.rf he13 dX7_opposite_14 (by decide) (fun c14 => ?_) (fun c14 => ?_)
    · refine J_iload_n dX7_opposite_32 rfl ?_
      refine Jz_iconst 3 dX7_opposite_33 (by decide) (fun y33 he33 => ?_)
      refine Jz_iaddw dX7_opposite_34 (fun y34  => ?_)
      refine Jz_bipush 6 dX7_opposite_35 (by decide) (fun y35 he35 => ?_)
      refine Jz_iremw he35 dX7_opposite_37 (by omega) (fun y37  => ?_)
      exact J_ret (r := some (.int _)) dX7_opposite_38 ⟨rfl, _, rfl, rfl⟩ (⟨⟨_, rfl, (j_rng _).1, (j_rng _).2⟩, rfl⟩)
    · refine J_iload_n dX7_opposite_17 rfl ?_
      refine Jz_iconst 2 dX7_opposite_18 (by decide) (fun y18 he18 => ?_)
      refine Jz_icmp_ne (tgt := 26) jEq.rf he18 dX7_opposite_19 (by decide) (fun c19 => ?_) (fun c19 => ?_)
      · refine Jz_iconst 1 dX7_opposite_26 (by decide) (fun y26 he26 => ?_)
        refine J_iload_n dX7_opposite_27 rfl ?_
        refine Jz_isubw dX7_opposite_28 (fun y28  => ?_)
        refine J_goto (tgt := 38) dX7_opposite_29 (by decide) ?_
        exact J_ret (r := some (.int _)) dX7_opposite_38 ⟨rfl, _, rfl, rfl⟩ (⟨⟨_, rfl, (j_rng _).1, (j_rng _).2⟩, rfl⟩)
      · refine Jz_iconst 2 dX7_opposite_22 (by decide) (fun y22 he22 => ?_)
        refine J_goto (tgt := 38) dX7_opposite_23 (by decide) ?_
        exact J_ret (r := some (.int _)) dX7_opposite_38 ⟨rfl, _, rfl, rfl⟩ (⟨⟨_, rfl, (j_rng _).1, (j_rng _).2⟩, rfl⟩)
  · refine J_iload_n dX7_opposite_4 rfl ?_
    refine Jz_iconst 2 dX7_opposite_5 (by decide) (fun y5 he5 => ?_)
    refine Jz_iaddw dX7_opposite_6 (fun y6  => ?_)
    refine Jz_iconst 4 dX7_opposite_7 (by decide) (fun y7 he7 => ?_)
    refine Jz_iremw he7 dX7_opposite_8 (by omega) (fun y8  => ?_)
    refine J_goto (tgt := 38) dX7_opposite_9 (by decide) ?_
    exact J_ret (r := some (.int _)) dX7_opposite_38 ⟨rfl, _, rfl, rfl⟩ (⟨⟨_, rfl, (j_rng _).1, (j_rng _).2⟩, rfl⟩)
set_option maxRecDepth 100000 in
set_option maxHeartbeats 8000000 in
theorem w_X7_isWalk {tS : jTS} (d : Nat) (V0 : jH) (a0 : Nat) (x1 : Int32) (hd : 1 ≤ d) (hW : WT V0) (ha0 : jis V0 (.inr 5) a0) : jTot tS mX7_isWalk d [.ref a0, .int x1] V0 0 0 (fun r V => (fun r _ => ∃ y : Int32, r = some (.int y) ∧ (0 ≤ y.toInt) ∧ (y.toInt ≤ 1) ∧ (jIf y 1 (0 ≤ x1.toInt ∧ x1.toInt ≤ 15))) r V ∧ V = V0) := by
  refine jTot.of_J [some (.ref a0), some (.int x1)] moX7_isWalk (Nat.le_of_ble_eq_true rfl) rfl ?_
  have hrx1 := j_rng x1
  have he : jeff [] V0 V0 := jeff.refl _ _
  refine J_iload_n dX7_isWalk_0 rfl ?_
  refine Jz_iconst 0 dX7_isWalk_1 (by decide) (fun y1 he1 => ?_)
  refine J_aload_n dX7_isWalk_2 rfl ?_
  obtain ⟨fs3, hO3, hK3⟩ := WT_obj hW id ha0
  obtain ⟨w3, hF3, y3, rfl, hl3, hh3⟩ := hK3.2 0 (.inl (0, 16)) rfl
  dsimp only at hl3 hh3
  refine J_get jf_X7_102 dX7_isWalk_3 hO3 hF3 ?_
  refine Jz_iconst 1 dX7_isWalk_6 (by decide) (fun y6 he6 => ?_)
  refine Jz_isub jEq.rf he6 dX7_isWalk_7 (by omega) (by omega) (fun y7 he7 => ?_)
  refine J_callS3 moX7_in jw_ml_X7_105 jw_st_X7_in dX7_isWalk_8 (w_X7_in (d - 1) _ x1 y1 y7 (by omega)   ) (by omega) (Nat.zero_le _) (Nat.zero_le _) (Nat.le_of_ble_eq_true rfl) (fun r8 V8 h8 => ?_)
  obtain ⟨⟨y8, rfl, hl8, hh8, hI8_0, hI8_1⟩, hE8⟩ := h8
  have hE8 := hE8.symm
  subst hE8
  exact J_ret (r := some (.int _)) dX7_isWalk_11 ⟨rfl, _, rfl, (nar_b (by omega) (by omega))⟩ (⟨⟨_, rfl, (by omega), (by omega), (fun h => by have q0 := hI8_0.of h; (try simp only [he1.eq, he7.eq] at q0); omega)⟩, rfl⟩)
set_option maxRecDepth 100000 in
set_option maxHeartbeats 8000000 in
theorem w_X7_walk {tS : jTS} (d : Nat) (V0 : jH) (a0 : Nat) (x1 : Int32) (v0 : Int32) (hd : 1 ≤ d) (hW : WT V0) (ha0 : jis V0 (.inr 5) a0) (hf_v0 : jfI V0 a0 5 0 v0) : jTot tS mX7_walk d [.ref a0, .int x1] V0 0 0 (fun r V => (jPost [.inr 5, .inl 14, .inl 15] V0 (fun r _ => ∃ y : Int32, r = some (.int y) ∧ ((-2147483648) ≤ y.toInt) ∧ (y.toInt ≤ 2147483647) ∧ ((¬ (0 ≤ x1.toInt ∧ x1.toInt ≤ 3) ∧ y.toInt = -2) ∨ (0 ≤ x1.toInt ∧ x1.toInt ≤ 3 ∧ v0.toInt = 16 ∧ y.toInt = -4) ∨ (0 ≤ x1.toInt ∧ x1.toInt ≤ 3 ∧ ¬ v0.toInt = 16 ∧ y.toInt = v0.toInt)))) r V ∧ jkc 5 [23, 24] V0 V ∧ (∃ w0 : Int32, jfI V a0 5 0 w0 ∧ ((0 ≤ x1.toInt ∧ x1.toInt ≤ 3 ∧ ¬ v0.toInt = 16 ∧ w0.toInt = v0.toInt + 1) ∨ (¬ (0 ≤ x1.toInt ∧ x1.toInt ≤ 3 ∧ ¬ v0.toInt = 16) ∧ w0.toInt = v0.toInt)))) := by
  refine jTot.of_J [some (.ref a0), some (.int x1)] moX7_walk (Nat.le_of_ble_eq_true rfl) rfl ?_
  have hrx1 := j_rng x1
  have he : jeff [.inr 5, .inl 14, .inl 15] V0 V0 := jeff.refl _ _
  have hkp : jkc 5 [23, 24] V0 V0 := jkc.rf
  obtain ⟨fs_a0, hO_a0, hK_a0⟩ := WT_obj hW id ha0
  have hF_v0 := hf_v0.get hO_a0
  have hrv0 : 0 ≤ v0.toInt ∧ v0.toInt ≤ 16 := jok_rngI hK_a0 rfl hF_v0
  refine J_iload_n dX7_walk_0 rfl ?_
  refine Jz_iconst 0 dX7_walk_1 (by decide) (fun y1 he1 => ?_)
  refine Jz_iconst 3 dX7_walk_2 (by decide) (fun y2 he2 => ?_)
  refine J_callS3 moX7_in jw_ml_X7_105 jw_st_X7_in dX7_walk_3 (w_X7_in (d - 1) _ x1 y1 y2 (by omega)   ) (by omega) (Nat.zero_le _) (Nat.zero_le _) (Nat.le_of_ble_eq_true rfl) (fun r3 V3 h3 => ?_)
  obtain ⟨⟨y3, rfl, hl3, hh3, hI3_0, hI3_1⟩, hE3⟩ := h3
  have hE3 := hE3.symm
  subst hE3
  refine Jz_if_ne (tgt := 12) jEq.rf dX7_walk_6 (by decide) (fun c6 => ?_) (fun c6 => ?_)
  · have q6_0 := hI3_0.of (by omega)
    try simp only [he1.eq, he2.eq] at q6_0
    refine J_aload_n dX7_walk_12 rfl ?_
    refine J_get jf_X7_102 dX7_walk_13 hO_a0 hF_v0 ?_
    refine Jz_bipush 16 dX7_walk_16 (by decide) (fun y16 he16 => ?_)
    refine Jz_icmp_ne (tgt := 24) jEq.rf he16 dX7_walk_18 (by decide) (fun c18 => ?_) (fun c18 => ?_)
    · refine J_aload_n dX7_walk_24 rfl ?_
      obtain ⟨w25, hF25, b25, rfl, hb25⟩ := hK_a0.2 1 (.inr (some (.inl 14))) rfl
      refine J_get jf_X7_7 dX7_walk_25 hO_a0 hF25 ?_
      refine J_aload_n dX7_walk_28 rfl ?_
      refine J_get jf_X7_102 dX7_walk_29 hO_a0 hF_v0 ?_
      refine J_iload_n dX7_walk_32 rfl ?_
      obtain ⟨n33, f33, hA33, hN33, hM33, hv33⟩ := WT_arrI (r := (0, 3)) hW id rfl hb25
      obtain rfl := hM33 16 rfl
      clear hN33 hM33
      refine Jz_iastw (r := (0, 3)) jEq.rf jEq.rf hW id dX7_walk_33 hA33 rfl rfl (by omega) (by omega) (by omega) (by omega) (fun V33 hW hx33 => ?_)
      have he := he.trans (hx33.sub (jsub_of rfl))
      have hkp := hkp.trans (jkc.of hx33 (jnot_of rfl))
      have ha0 := ha0.mono hx33.1
      have hb25 := hb25.mono hx33.1
      have hO_a0 := hx33.2 _ _ hO_a0 (jnot_of rfl)
      have hK_a0 := hK_a0.mono hx33.1
      refine J_aload_n dX7_walk_34 rfl ?_
      obtain ⟨w35, hF35, b35, rfl, hb35⟩ := hK_a0.2 2 (.inr (some (.inl 15))) rfl
      refine J_get jf_X7_13 dX7_walk_35 hO_a0 hF35 ?_
      refine J_aload_n dX7_walk_38 rfl ?_
      refine J_get jf_X7_102 dX7_walk_39 hO_a0 hF_v0 ?_
      refine Jz_iconst 0 dX7_walk_42 (by decide) (fun y42 he42 => ?_)
      obtain ⟨n43, f43, hA43, hN43, hM43, hv43⟩ := WT_arrI (r := (0, 60)) hW id rfl hb35
      obtain rfl := hM43 16 rfl
      clear hN43 hM43
      refine Jz_iastw (r := (0, 60)) jEq.rf he42 hW id dX7_walk_43 hA43 rfl rfl (by omega) (by omega) (by omega) (by omega) (fun V43 hW hx43 => ?_)
      have he := he.trans (hx43.sub (jsub_of rfl))
      have hkp := hkp.trans (jkc.of hx43 (jnot_of rfl))
      have ha0 := ha0.mono hx43.1
      have hb25 := hb25.mono hx43.1
      have hb35 := hb35.mono hx43.1
      have hO_a0 := hx43.2 _ _ hO_a0 (jnot_of rfl)
      have hK_a0 := hK_a0.mono hx43.1
      refine J_aload_n dX7_walk_44 rfl ?_
      refine J_dup dX7_walk_45 rfl ?_
      refine J_get jf_X7_102 dX7_walk_46 hO_a0 hF_v0 ?_
      refine Jz_iconst 1 dX7_walk_49 (by decide) (fun y49 he49 => ?_)
      refine Jz_iadd jEq.rf he49 dX7_walk_50 (by omega) (by omega) (fun y50 he50 => ?_)
      refine Jz_putI hO_a0 hW id rfl jf_X7_102 jt_X7_0 he50 dX7_walk_51 (by omega) (by omega) (fun _ _ => ⟨rfl, rfl⟩) (fun V51 fs51 hW hx51 hO51 hS51 hT51 hB51 => ?_)
      have hK51 : jokO _ (jFs 5) fs51 := hW _ _ id hO51
      have hF51_1 := (hT51 1 (by decide)).trans hF25
      have hF51_2 := (hT51 2 (by decide)).trans hF35
      have he := he.trans (hx51.sub (jsub_of rfl))
      have hkp := hkp.trans (jkc.put hO_a0 hO51 hT51 hB51 (by decide))
      have ha0 := ha0.mono hx51.1
      have hb25 := hb25.mono hx51.1
      have hb35 := hb35.mono hx51.1
      refine J_aload_n dX7_walk_54 rfl ?_
      refine J_get jf_X7_102 dX7_walk_55 hO51 hS51 ?_
      refine Jz_iconst 1 dX7_walk_58 (by decide) (fun y58 he58 => ?_)
      refine Jz_isub he50 he58 dX7_walk_59 (by omega) (by omega) (fun y59 he59 => ?_)
      exact J_ret (r := some (.int _)) dX7_walk_60 ⟨rfl, _, rfl, rfl⟩ (⟨⟨hW, he, ⟨_, rfl, (j_rng _).1, (j_rng _).2, (by (try simp only [he59.eq, true_and, and_true]) <;> omega)⟩⟩, hkp, ⟨_, ⟨_, hO51, hS51⟩, (by (try simp only [he50.eq, true_and, and_true]) <;> omega)⟩⟩)
    · refine Jz_bipush (-4) dX7_walk_21 (by decide) (fun y21 he21 => ?_)
      exact J_ret (r := some (.int _)) dX7_walk_23 ⟨rfl, _, rfl, rfl⟩ (⟨⟨hW, he, ⟨_, rfl, (j_rng _).1, (j_rng _).2, (by (try simp only [he21.eq, true_and, and_true]) <;> omega)⟩⟩, hkp, ⟨_, ⟨_, hO_a0, hF_v0⟩, (by omega)⟩⟩)
  · have q6_1 := hI3_1.of (by omega)
    try simp only [he1.eq, he2.eq] at q6_1
    refine Jz_bipush (-2) dX7_walk_9 (by decide) (fun y9 he9 => ?_)
    exact J_ret (r := some (.int _)) dX7_walk_11 ⟨rfl, _, rfl, rfl⟩ (⟨⟨hW, he, ⟨_, rfl, (j_rng _).1, (j_rng _).2, (by (try simp only [he9.eq, true_and, and_true]) <;> omega)⟩⟩, hkp, ⟨_, ⟨_, hO_a0, hF_v0⟩, (by omega)⟩⟩)
set_option maxRecDepth 100000 in
set_option maxHeartbeats 8000000 in
theorem w_X7_brings {tS : jTS} (d : Nat) (V0 : jH) (a0 : Nat) (x1 : Int32) (hd : 0 ≤ d) (hW : WT V0) (ha0 : jis V0 (.inr 5) a0) (hp0 : 0 ≤ x1.toInt) (hp1 : x1.toInt ≤ 15) : jTot tS mX7_brings d [.ref a0, .int x1] V0 0 0 (fun r V => (jPost [.inr 5, .inl 17] V0 rV) r V ∧ jkc 5 [0, 23, 24] V0 V ∧ (∃ v5 : Int32, jfI V a0 5 5 v5 ∧ (0 ≤ v5.toInt ∧ v5.toInt ≤ 60))) := by
  refine jTot.of_J [some (.ref a0), some (.int x1), none] moX7_brings (Nat.le_of_ble_eq_true rfl) rfl ?_
  have hrx1 := j_rng x1
  have he : jeff [.inr 5, .inl 17] V0 V0 := jeff.refl _ _
  have hkp : jkc 5 [0, 23, 24] V0 V0 := jkc.rf
  refine J_aload_n dX7_brings_0 rfl ?_
  refine J_aload_n dX7_brings_1 rfl ?_
  obtain ⟨fs2, hO2, hK2⟩ := WT_obj hW id ha0
  obtain ⟨w2, hF2, b2, rfl, hb2⟩ := hK2.2 2 (.inr (some (.inl 15))) rfl
  refine J_get jf_X7_13 dX7_brings_2 hO2 hF2 ?_
  refine J_iload_n dX7_brings_5 rfl ?_
  obtain ⟨n6, f6, hA6, hN6, hM6, hv6⟩ := WT_arrI (r := (0, 60)) hW id rfl hb2
  obtain rfl := hM6 16 rfl
  clear hN6 hM6
  refine Jz_ialdr (r := (0, 60)) jEq.rf dX7_brings_6 hA6 rfl hv6 (by omega) (by omega) (fun y6 hl6 hh6 => ?_)
  dsimp only at hl6 hh6
  refine Jz_putI hO2 hW id rfl jf_X7_109 jt_X7_5 jEq.rf dX7_brings_7 (by omega) (by omega) (fun _ _ => ⟨rfl, rfl⟩) (fun V7 fs7 hW hx7 hO7 hS7 hT7 hB7 => ?_)
  have hK7 : jokO _ (jFs 5) fs7 := hW _ _ id hO7
  have hF7_2 := (hT7 2 (by decide)).trans hF2
  have he := he.trans (hx7.sub (jsub_of rfl))
  have hkp := hkp.trans (jkc.put hO2 hO7 hT7 hB7 (by decide))
  have ha0 := ha0.mono hx7.1
  have hb2 := hb2.mono hx7.1
  have hA6 := hx7.2 _ _ hA6 (jnot_of rfl)
  refine Jz_iconst 0 dX7_brings_10 (by decide) (fun y10 he10 => ?_)
  refine J_istore_n dX7_brings_11 rfl (by decide) ?_
  have L12 : ∀ (N : Nat) (V : jH) (i2n12 : Int32), WT V → jeff [.inr 5, .inl 17] V0 V → (jis V (.inr 5) a0) → (jis V (.inl 15) b2) → (jkc 5 [0, 23, 24] V0 V) → (V a0 = some (.inr (5, fs7))) → (jokO V (jFs 5) fs7) → (0 ≤ i2n12.toInt) → (300 - i2n12.toInt).toNat < N → J tS mX7_brings d 12 [some (.ref a0), some (.int x1), some (.int i2n12)] [] V 0 0 (fun r V => (jPost [.inr 5, .inl 17] V0 rV) r V ∧ jkc 5 [0, 23, 24] V0 V ∧ (∃ v5 : Int32, jfI V a0 5 5 v5 ∧ (0 ≤ v5.toInt ∧ v5.toInt ≤ 60))) := by
    intro N
    induction N with
    | zero => intro V i2n12 hW he ha0 hb2 hkp hO7 hK7 hi2 hm; exact absurd hm (Nat.not_lt_zero _)
    | succ N ih =>
      intro V i2n12 hW he ha0 hb2 hkp hO7 hK7 hi2 hm
      have ih12 := ih
      have hri2 := j_rng i2n12
      refine J_iload_n dX7_brings_12 rfl ?_
      refine J_aload_n dX7_brings_13 rfl ?_
      refine J_get jf_X7_109 dX7_brings_14 hO7 hS7 ?_
      refine Jz_icmp_ge (tgt := 43) jEq.rf jEq.rf dX7_brings_17 (by decide) (fun c17 => ?_) (fun c17 => ?_)
      · exact J_ret (r := none) dX7_brings_43 ⟨rfl, rfl⟩ (⟨⟨hW, he, rfl⟩, hkp, ⟨_, ⟨_, hO7, hS7⟩, (by omega)⟩⟩)
      · refine J_aload_n dX7_brings_20 rfl ?_
        obtain ⟨w21, hF21, b21, rfl, hb21⟩ := hK7.2 4 (.inr (some (.inl 17))) rfl
        refine J_get jf_X7_19 dX7_brings_21 hO7 hF21 ?_
        refine J_iload_n dX7_brings_24 rfl ?_
        refine J_aload_n dX7_brings_25 rfl ?_
        obtain ⟨w26, hF26, b26, rfl, hb26⟩ := hK7.2 3 (.inr (some (.inl 16))) rfl
        refine J_get jf_X7_16 dX7_brings_26 hO7 hF26 ?_
        refine Jz_bipush 60 dX7_brings_29 (by decide) (fun y29 he29 => ?_)
        refine J_iload_n dX7_brings_31 rfl ?_
        refine Jz_imul he29 jEq.rf dX7_brings_32 (by omega) (by omega) (fun y32 he32 => ?_)
        refine J_iload_n dX7_brings_33 rfl ?_
        refine Jz_iadd he32 jEq.rf dX7_brings_34 (by omega) (by omega) (fun y34 he34 => ?_)
        obtain ⟨n35, f35, hA35, hN35, hM35, hv35⟩ := WT_arrI (r := (-2147483648, 2147483647)) hW id rfl hb26
        obtain rfl := hM35 960 rfl
        clear hN35 hM35
        refine Jz_ialdw he34 dX7_brings_35 hA35 rfl (by omega) (by omega) (fun y35 => ?_)
        obtain ⟨n36, f36, hA36, hN36, hM36, hv36⟩ := WT_arrI (r := (-2147483648, 2147483647)) hW id rfl hb21
        obtain rfl := hM36 120 rfl
        clear hN36 hM36
        refine Jz_iastw (r := ((-2147483648), 2147483647)) jEq.rf jEq.rf hW id dX7_brings_36 hA36 rfl rfl (by omega) (by omega) (j_rng _).1 (j_rng _).2 (fun V36 hW hx36 => ?_)
        have he := he.trans (hx36.sub (jsub_of rfl))
        have hkp := hkp.trans (jkc.of hx36 (jnot_of rfl))
        have ha0 := ha0.mono hx36.1
        have hb2 := hb2.mono hx36.1
        have hb21 := hb21.mono hx36.1
        have hb26 := hb26.mono hx36.1
        have hO7 := hx36.2 _ _ hO7 (jnot_of rfl)
        have hK7 := hK7.mono hx36.1
        have hA35 := hx36.2 _ _ hA35 (jnot_of rfl)
        refine Jz_iinc 1 dX7_brings_37 rfl rfl (by decide) jEq.rf (by decide) (by omega) (by omega) (fun y37 he37 => ?_)
        refine J_goto (tgt := 12) dX7_brings_40 (by decide) ?_
        refine J.mask [true, true, true] ?_
        exact ih12 _ y37 hW he ha0 hb2 hkp hO7 hK7 (by (try simp only [he37.eq, true_and, and_true]) <;> omega) (by (try simp only [he37.eq, true_and, and_true]) <;> omega)
  refine J.mask [true, true, true] ?_
  exact L12 _ _ y10 hW he ha0 hb2 hkp hO7 hK7 (by (try simp only [he10.eq, true_and, and_true]) <;> omega) (Nat.lt_succ_self _)
set_option maxRecDepth 100000 in
set_option maxHeartbeats 8000000 in
theorem w_X7_goes {tS : jTS} (d : Nat) (V0 : jH) (a0 : Nat) (x1 : Int32) (hd : 1 ≤ d) (hW : WT V0) (ha0 : jis V0 (.inr 5) a0) : jTot tS mX7_goes d [.ref a0, .int x1] V0 0 0 (jPost [.inl 18, .inl 19, .inl 20] V0 (fun r _ => ∃ y : Int32, r = some (.int y) ∧ (0 ≤ y.toInt) ∧ (y.toInt ≤ 1))) := by
  refine jTot.of_J [some (.ref a0), some (.int x1), none, none, none] moX7_goes (Nat.le_of_ble_eq_true rfl) rfl ?_
  have hrx1 := j_rng x1
  have he : jeff [.inl 18, .inl 19, .inl 20] V0 V0 := jeff.refl _ _
  refine Jz_iconst 1 dX7_goes_0 (by decide) (fun y0 he0 => ?_)
  refine J_istore_n dX7_goes_1 rfl (by decide) ?_
  refine J_aload_n dX7_goes_2 rfl ?_
  obtain ⟨fs3, hO3, hK3⟩ := WT_obj hW id ha0
  obtain ⟨w3, hF3, b3, rfl, hb3⟩ := hK3.2 6 (.inr (some (.inl 18))) rfl
  refine J_get jf_X7_22 dX7_goes_3 hO3 hF3 ?_
  refine Jz_iconst 0 dX7_goes_6 (by decide) (fun y6 he6 => ?_)
  refine Jz_iconst 0 dX7_goes_7 (by decide) (fun y7 he7 => ?_)
  obtain ⟨n8, f8, hA8, hN8, hM8, hv8⟩ := WT_arrI (r := (-2147483648, 2147483647)) hW id rfl hb3
  obtain rfl := hM8 121 rfl
  clear hN8 hM8
  refine Jz_iastw (r := ((-2147483648), 2147483647)) he6 he7 hW id dX7_goes_8 hA8 rfl rfl (by omega) (by omega) (by omega) (by omega) (fun V8 hW hx8 => ?_)
  have he := he.trans (hx8.sub (jsub_of rfl))
  have ha0 := ha0.mono hx8.1
  have hb3 := hb3.mono hx8.1
  have hO3 := hx8.2 _ _ hO3 (jnot_of rfl)
  have hK3 := hK3.mono hx8.1
  refine J_aload_n dX7_goes_9 rfl ?_
  obtain ⟨w10, hF10, b10, rfl, hb10⟩ := hK3.2 7 (.inr (some (.inl 19))) rfl
  refine J_get jf_X7_25 dX7_goes_10 hO3 hF10 ?_
  refine Jz_iconst 0 dX7_goes_13 (by decide) (fun y13 he13 => ?_)
  refine Jz_iconst 0 dX7_goes_14 (by decide) (fun y14 he14 => ?_)
  obtain ⟨n15, f15, hA15, hN15, hM15, hv15⟩ := WT_arrI (r := (-2147483648, 2147483647)) hW id rfl hb10
  obtain rfl := hM15 121 rfl
  clear hN15 hM15
  refine Jz_iastw (r := ((-2147483648), 2147483647)) he13 he14 hW id dX7_goes_15 hA15 rfl rfl (by omega) (by omega) (by omega) (by omega) (fun V15 hW hx15 => ?_)
  have he := he.trans (hx15.sub (jsub_of rfl))
  have ha0 := ha0.mono hx15.1
  have hb3 := hb3.mono hx15.1
  have hb10 := hb10.mono hx15.1
  have hO3 := hx15.2 _ _ hO3 (jnot_of rfl)
  have hK3 := hK3.mono hx15.1
  refine J_aload_n dX7_goes_16 rfl ?_
  obtain ⟨w17, hF17, b17, rfl, hb17⟩ := hK3.2 8 (.inr (some (.inl 20))) rfl
  refine J_get jf_X7_28 dX7_goes_17 hO3 hF17 ?_
  refine Jz_iconst 0 dX7_goes_20 (by decide) (fun y20 he20 => ?_)
  refine Jz_iconst 0 dX7_goes_21 (by decide) (fun y21 he21 => ?_)
  obtain ⟨n22, f22, hA22, hN22, hM22, hv22⟩ := WT_arrI (r := (-2147483648, 2147483647)) hW id rfl hb17
  obtain rfl := hM22 121 rfl
  clear hN22 hM22
  refine Jz_iastw (r := ((-2147483648), 2147483647)) he20 he21 hW id dX7_goes_22 hA22 rfl rfl (by omega) (by omega) (by omega) (by omega) (fun V22 hW hx22 => ?_)
  have he := he.trans (hx22.sub (jsub_of rfl))
  have ha0 := ha0.mono hx22.1
  have hb3 := hb3.mono hx22.1
  have hb10 := hb10.mono hx22.1
  have hb17 := hb17.mono hx22.1
  have hO3 := hx22.2 _ _ hO3 (jnot_of rfl)
  have hK3 := hK3.mono hx22.1
  refine Jz_iconst 0 dX7_goes_23 (by decide) (fun y23 he23 => ?_)
  refine J_istore_n dX7_goes_24 rfl (by decide) ?_
  have L25 : ∀ (N : Nat) (V : jH) (i2n25 : Int32) (i3n25 : Int32), WT V → jeff [.inl 18, .inl 19, .inl 20] V0 V → (jis V (.inr 5) a0) → (jis V (.inl 18) b3) → (jis V (.inl 19) b10) → (jis V (.inl 20) b17) → (V a0 = some (.inr (5, fs3))) → (jokO V (jFs 5) fs3) → (0 ≤ i3n25.toInt) → (0 ≤ i2n25.toInt ∧ i2n25.toInt ≤ 1) → (300 - i3n25.toInt).toNat < N → J tS mX7_goes d 25 [some (.ref a0), some (.int x1), some (.int i2n25), some (.int i3n25), none] [] V 0 0 (jPost [.inl 18, .inl 19, .inl 20] V0 (fun r _ => ∃ y : Int32, r = some (.int y) ∧ (0 ≤ y.toInt) ∧ (y.toInt ≤ 1))) := by
    intro N
    induction N with
    | zero => intro V i2n25 i3n25 hW he ha0 hb3 hb10 hb17 hO3 hK3 hi3 hb2 hm; exact absurd hm (Nat.not_lt_zero _)
    | succ N ih =>
      intro V i2n25 i3n25 hW he ha0 hb3 hb10 hb17 hO3 hK3 hi3 hb2 hm
      have ih25 := ih
      have hri3 := j_rng i3n25
      refine J_iload_n dX7_goes_25 rfl ?_
      refine J_aload_n dX7_goes_26 rfl ?_
      obtain ⟨w27, hF27, y27, rfl, hl27, hh27⟩ := hK3.2 5 (.inl (0, 120)) rfl
      dsimp only at hl27 hh27
      refine J_get jf_X7_109 dX7_goes_27 hO3 hF27 ?_
      refine Jz_icmp_ge (tgt := 206) jEq.rf jEq.rf dX7_goes_30 (by decide) (fun c30 => ?_) (fun c30 => ?_)
      · refine J_iload_n dX7_goes_206 rfl ?_
        exact J_ret (r := some (.int _)) dX7_goes_207 ⟨rfl, _, rfl, (nar_b (by omega) (by omega))⟩ (⟨hW, he, ⟨_, rfl, (by omega), (by omega)⟩⟩)
      · refine J_aload_n dX7_goes_33 rfl ?_
        refine J_get jf_X7_22 dX7_goes_34 hO3 hF3 ?_
        refine J_iload_n dX7_goes_37 rfl ?_
        refine Jz_iconst 1 dX7_goes_38 (by decide) (fun y38 he38 => ?_)
        refine Jz_iadd jEq.rf he38 dX7_goes_39 (by omega) (by omega) (fun y39 he39 => ?_)
        refine J_aload_n dX7_goes_40 rfl ?_
        refine J_get jf_X7_22 dX7_goes_41 hO3 hF3 ?_
        refine J_iload_n dX7_goes_44 rfl ?_
        obtain ⟨n45, f45, hA45, hN45, hM45, hv45⟩ := WT_arrI (r := (-2147483648, 2147483647)) hW id rfl hb3
        obtain rfl := hM45 121 rfl
        clear hN45 hM45
        refine Jz_ialdw jEq.rf dX7_goes_45 hA45 rfl (by omega) (by omega) (fun y45 => ?_)
        refine J_iload_n dX7_goes_46 rfl ?_
        refine J_aload_n dX7_goes_47 rfl ?_
        obtain ⟨w48, hF48, b48, rfl, hb48⟩ := hK3.2 4 (.inr (some (.inl 17))) rfl
        refine J_get jf_X7_19 dX7_goes_48 hO3 hF48 ?_
        refine J_iload_n dX7_goes_51 rfl ?_
        obtain ⟨n52, f52, hA52, hN52, hM52, hv52⟩ := WT_arrI (r := (-2147483648, 2147483647)) hW id rfl hb48
        obtain rfl := hM52 120 rfl
        clear hN52 hM52
        refine Jz_ialdw jEq.rf dX7_goes_52 hA52 rfl (by omega) (by omega) (fun y52 => ?_)
        refine J_callS2 moX7_stepX jw_ml_X7_112 jw_st_X7_stepX dX7_goes_53 (w_X7_stepX (d - 1) _ x1 y52 (by omega)   ) (by omega) (Nat.zero_le _) (Nat.zero_le _) (Nat.le_of_ble_eq_true rfl) (fun r53 V53 h53 => ?_)
        obtain ⟨⟨y53, rfl, hl53, hh53⟩, hE53⟩ := h53
        have hE53 := hE53.symm
        subst hE53
        refine Jz_iaddw dX7_goes_56 (fun y56  => ?_)
        refine Jz_iastw (r := ((-2147483648), 2147483647)) he39 jEq.rf hW id dX7_goes_57 hA45 rfl rfl (by omega) (by omega) (j_rng _).1 (j_rng _).2 (fun V57 hW hx57 => ?_)
        have he := he.trans (hx57.sub (jsub_of rfl))
        have ha0 := ha0.mono hx57.1
        have hb3 := hb3.mono hx57.1
        have hb10 := hb10.mono hx57.1
        have hb17 := hb17.mono hx57.1
        have hb48 := hb48.mono hx57.1
        have hO3 := hx57.2 _ _ hO3 (jnot_of rfl)
        have hK3 := hK3.mono hx57.1
        have hA52 := hx57.2 _ _ hA52 (jnot_of rfl)
        refine J_aload_n dX7_goes_58 rfl ?_
        refine J_get jf_X7_25 dX7_goes_59 hO3 hF10 ?_
        refine J_iload_n dX7_goes_62 rfl ?_
        refine Jz_iconst 1 dX7_goes_63 (by decide) (fun y63 he63 => ?_)
        refine Jz_iadd jEq.rf he63 dX7_goes_64 (by omega) (by omega) (fun y64 he64 => ?_)
        refine J_aload_n dX7_goes_65 rfl ?_
        refine J_get jf_X7_25 dX7_goes_66 hO3 hF10 ?_
        refine J_iload_n dX7_goes_69 rfl ?_
        obtain ⟨n70, f70, hA70, hN70, hM70, hv70⟩ := WT_arrI (r := (-2147483648, 2147483647)) hW id rfl hb10
        obtain rfl := hM70 121 rfl
        clear hN70 hM70
        refine Jz_ialdw jEq.rf dX7_goes_70 hA70 rfl (by omega) (by omega) (fun y70 => ?_)
        refine J_iload_n dX7_goes_71 rfl ?_
        refine J_aload_n dX7_goes_72 rfl ?_
        refine J_get jf_X7_19 dX7_goes_73 hO3 hF48 ?_
        refine J_iload_n dX7_goes_76 rfl ?_
        refine Jz_ialdw jEq.rf dX7_goes_77 hA52 rfl (by omega) (by omega) (fun y77 => ?_)
        refine J_aload_n dX7_goes_78 rfl ?_
        refine J_get jf_X7_22 dX7_goes_79 hO3 hF3 ?_
        refine J_iload_n dX7_goes_82 rfl ?_
        obtain ⟨n83, f83, hA83, hN83, hM83, hv83⟩ := WT_arrI (r := (-2147483648, 2147483647)) hW id rfl hb3
        obtain rfl := hM83 121 rfl
        clear hN83 hM83
        refine Jz_ialdw jEq.rf dX7_goes_83 hA83 rfl (by omega) (by omega) (fun y83 => ?_)
        refine J_aload_n dX7_goes_84 rfl ?_
        refine J_get jf_X7_25 dX7_goes_85 hO3 hF10 ?_
        refine J_iload_n dX7_goes_88 rfl ?_
        refine Jz_ialdw jEq.rf dX7_goes_89 hA70 rfl (by omega) (by omega) (fun y89 => ?_)
        refine Jz_iaddw dX7_goes_90 (fun y90  => ?_)
        refine J_callS3 moX7_stepY jw_ml_X7_115 jw_st_X7_stepY dX7_goes_91 (w_X7_stepY (d - 1) _ x1 y77 y90 (by omega)   ) (by omega) (Nat.zero_le _) (Nat.zero_le _) (Nat.le_of_ble_eq_true rfl) (fun r91 V91 h91 => ?_)
        obtain ⟨⟨y91, rfl, hl91, hh91⟩, hE91⟩ := h91
        have hE91 := hE91.symm
        subst hE91
        refine Jz_iaddw dX7_goes_94 (fun y94  => ?_)
        refine Jz_iastw (r := ((-2147483648), 2147483647)) he64 jEq.rf hW id dX7_goes_95 hA70 rfl rfl (by omega) (by omega) (j_rng _).1 (j_rng _).2 (fun V95 hW hx95 => ?_)
        have he := he.trans (hx95.sub (jsub_of rfl))
        have ha0 := ha0.mono hx95.1
        have hb3 := hb3.mono hx95.1
        have hb10 := hb10.mono hx95.1
        have hb17 := hb17.mono hx95.1
        have hb48 := hb48.mono hx95.1
        have hO3 := hx95.2 _ _ hO3 (jnot_of rfl)
        have hK3 := hK3.mono hx95.1
        have hA52 := hx95.2 _ _ hA52 (jnot_of rfl)
        have hA83 := hx95.2 _ _ hA83 (jnot_of rfl)
        refine J_aload_n dX7_goes_96 rfl ?_
        refine J_get jf_X7_28 dX7_goes_97 hO3 hF17 ?_
        refine J_iload_n dX7_goes_100 rfl ?_
        refine Jz_iconst 1 dX7_goes_101 (by decide) (fun y101 he101 => ?_)
        refine Jz_iadd jEq.rf he101 dX7_goes_102 (by omega) (by omega) (fun y102 he102 => ?_)
        refine J_aload_n dX7_goes_103 rfl ?_
        refine J_get jf_X7_28 dX7_goes_104 hO3 hF17 ?_
        refine J_iload_n dX7_goes_107 rfl ?_
        obtain ⟨n108, f108, hA108, hN108, hM108, hv108⟩ := WT_arrI (r := (-2147483648, 2147483647)) hW id rfl hb17
        obtain rfl := hM108 121 rfl
        clear hN108 hM108
        refine Jz_ialdw jEq.rf dX7_goes_108 hA108 rfl (by omega) (by omega) (fun y108 => ?_)
        refine J_iload_n dX7_goes_109 rfl ?_
        refine J_aload_n dX7_goes_110 rfl ?_
        refine J_get jf_X7_19 dX7_goes_111 hO3 hF48 ?_
        refine J_iload_n dX7_goes_114 rfl ?_
        refine Jz_ialdw jEq.rf dX7_goes_115 hA52 rfl (by omega) (by omega) (fun y115 => ?_)
        refine J_callS2 moX7_stepZ jw_ml_X7_119 jw_st_X7_stepZ dX7_goes_116 (w_X7_stepZ (d - 1) _ x1 y115 (by omega)   ) (by omega) (Nat.zero_le _) (Nat.zero_le _) (Nat.le_of_ble_eq_true rfl) (fun r116 V116 h116 => ?_)
        obtain ⟨⟨y116, rfl, hl116, hh116⟩, hE116⟩ := h116
        have hE116 := hE116.symm
        subst hE116
        refine Jz_iaddw dX7_goes_119 (fun y119  => ?_)
        refine Jz_iastw (r := ((-2147483648), 2147483647)) he102 jEq.rf hW id dX7_goes_120 hA108 rfl rfl (by omega) (by omega) (j_rng _).1 (j_rng _).2 (fun V120 hW hx120 => ?_)
        have he := he.trans (hx120.sub (jsub_of rfl))
        have ha0 := ha0.mono hx120.1
        have hb3 := hb3.mono hx120.1
        have hb10 := hb10.mono hx120.1
        have hb17 := hb17.mono hx120.1
        have hb48 := hb48.mono hx120.1
        have hO3 := hx120.2 _ _ hO3 (jnot_of rfl)
        have hK3 := hK3.mono hx120.1
        have hA52 := hx120.2 _ _ hA52 (jnot_of rfl)
        have hA83 := hx120.2 _ _ hA83 (jnot_of rfl)
        refine Jz_iconst 0 dX7_goes_121 (by decide) (fun y121 he121 => ?_)
        refine J_istore dX7_goes_122 rfl (by decide) ?_
        have L124 : ∀ (N : Nat) (V : jH) (i2n124 : Int32) (i4n124 : Int32), WT V → jeff [.inl 18, .inl 19, .inl 20] V0 V → (jis V (.inr 5) a0) → (jis V (.inl 18) b3) → (jis V (.inl 19) b10) → (jis V (.inl 20) b17) → (jis V (.inl 17) b48) → (V a0 = some (.inr (5, fs3))) → (jokO V (jFs 5) fs3) → (0 ≤ i4n124.toInt) → (0 ≤ i2n124.toInt ∧ i2n124.toInt ≤ 1) → (300 - i4n124.toInt).toNat < N → J tS mX7_goes d 124 [some (.ref a0), some (.int x1), some (.int i2n124), some (.int i3n25), some (.int i4n124)] [] V 0 0 (jPost [.inl 18, .inl 19, .inl 20] V0 (fun r _ => ∃ y : Int32, r = some (.int y) ∧ (0 ≤ y.toInt) ∧ (y.toInt ≤ 1))) := by
          intro N
          induction N with
          | zero => intro V i2n124 i4n124 hW he ha0 hb3 hb10 hb17 hb48 hO3 hK3 hi4 hb2 hm; exact absurd hm (Nat.not_lt_zero _)
          | succ N ih =>
            intro V i2n124 i4n124 hW he ha0 hb3 hb10 hb17 hb48 hO3 hK3 hi4 hb2 hm
            have ih124 := ih
            have hri4 := j_rng i4n124
            refine J_iload dX7_goes_124 rfl ?_
            refine J_iload_n dX7_goes_126 rfl ?_
            refine Jz_icmp_gt (tgt := 200) jEq.rf jEq.rf dX7_goes_127 (by decide) (fun c127 => ?_) (fun c127 => ?_)
            · refine Jz_iinc 1 dX7_goes_200 rfl rfl (by decide) jEq.rf (by decide) (by omega) (by omega) (fun y200 he200 => ?_)
              refine J_goto (tgt := 25) dX7_goes_203 (by decide) ?_
              refine J.mask [true, true, true, true, false] ?_
              exact ih25 _ i2n124 y200 hW he ha0 hb3 hb10 hb17 hO3 hK3 (by (try simp only [he200.eq, true_and, and_true]) <;> omega) (by (try simp only [he200.eq, true_and, and_true]) <;> omega) (by (try simp only [he200.eq, true_and, and_true]) <;> omega)
            · refine J_iload_n dX7_goes_130 rfl ?_
              refine Jz_if_eq (tgt := 200) jEq.rf dX7_goes_131 (by decide) (fun c131 => ?_) (fun c131 => ?_)
              · refine Jz_iinc 1 dX7_goes_200 rfl rfl (by decide) jEq.rf (by decide) (by omega) (by omega) (fun y200 he200 => ?_)
                refine J_goto (tgt := 25) dX7_goes_203 (by decide) ?_
                refine J.mask [true, true, true, true, false] ?_
                exact ih25 _ i2n124 y200 hW he ha0 hb3 hb10 hb17 hO3 hK3 (by (try simp only [he200.eq, true_and, and_true]) <;> omega) (by (try simp only [he200.eq, true_and, and_true]) <;> omega) (by (try simp only [he200.eq, true_and, and_true]) <;> omega)
              · refine J_aload_n dX7_goes_134 rfl ?_
                refine J_get jf_X7_22 dX7_goes_135 hO3 hF3 ?_
                refine J_iload dX7_goes_138 rfl ?_
                obtain ⟨n140, f140, hA140, hN140, hM140, hv140⟩ := WT_arrI (r := (-2147483648, 2147483647)) hW id rfl hb3
                obtain rfl := hM140 121 rfl
                clear hN140 hM140
                refine Jz_ialdw jEq.rf dX7_goes_140 hA140 rfl (by omega) (by omega) (fun y140 => ?_)
                refine J_aload_n dX7_goes_141 rfl ?_
                refine J_get jf_X7_22 dX7_goes_142 hO3 hF3 ?_
                refine J_iload_n dX7_goes_145 rfl ?_
                refine Jz_iconst 1 dX7_goes_146 (by decide) (fun y146 he146 => ?_)
                refine Jz_iadd jEq.rf he146 dX7_goes_147 (by omega) (by omega) (fun y147 he147 => ?_)
                refine Jz_ialdw he147 dX7_goes_148 hA140 rfl (by omega) (by omega) (fun y148 => ?_)
                refine Jz_icmp_ne (tgt := 188) jEq.rf jEq.rf dX7_goes_149 (by decide) (fun c149 => ?_) (fun c149 => ?_)
                · refine Jz_iconst 1 dX7_goes_188 (by decide) (fun y188 he188 => ?_)
                  refine J_goto (tgt := 193) dX7_goes_189 (by decide) ?_
                  refine J_istore_n dX7_goes_193 rfl (by decide) ?_
                  refine Jz_iinc 1 dX7_goes_194 rfl rfl (by decide) jEq.rf (by decide) (by omega) (by omega) (fun y194 he194 => ?_)
                  refine J_goto (tgt := 124) dX7_goes_197 (by decide) ?_
                  refine J.mask [true, true, true, true, true] ?_
                  exact ih124 _ y188 y194 hW he ha0 hb3 hb10 hb17 hb48 hO3 hK3 (by (try simp only [he188.eq, he194.eq, true_and, and_true]) <;> omega) (by (try simp only [he188.eq, he194.eq, true_and, and_true]) <;> omega) (by (try simp only [he188.eq, he194.eq, true_and, and_true]) <;> omega)
                · refine J_aload_n dX7_goes_152 rfl ?_
                  refine J_get jf_X7_25 dX7_goes_153 hO3 hF10 ?_
                  refine J_iload dX7_goes_156 rfl ?_
                  obtain ⟨n158, f158, hA158, hN158, hM158, hv158⟩ := WT_arrI (r := (-2147483648, 2147483647)) hW id rfl hb10
                  obtain rfl := hM158 121 rfl
                  clear hN158 hM158
                  refine Jz_ialdw jEq.rf dX7_goes_158 hA158 rfl (by omega) (by omega) (fun y158 => ?_)
                  refine J_aload_n dX7_goes_159 rfl ?_
                  refine J_get jf_X7_25 dX7_goes_160 hO3 hF10 ?_
                  refine J_iload_n dX7_goes_163 rfl ?_
                  refine Jz_iconst 1 dX7_goes_164 (by decide) (fun y164 he164 => ?_)
                  refine Jz_iadd jEq.rf he164 dX7_goes_165 (by omega) (by omega) (fun y165 he165 => ?_)
                  refine Jz_ialdw he165 dX7_goes_166 hA158 rfl (by omega) (by omega) (fun y166 => ?_)
                  refine Jz_icmp_ne (tgt := 188) jEq.rf jEq.rf dX7_goes_167 (by decide) (fun c167 => ?_) (fun c167 => ?_)
                  · refine Jz_iconst 1 dX7_goes_188 (by decide) (fun y188 he188 => ?_)
                    refine J_goto (tgt := 193) dX7_goes_189 (by decide) ?_
                    refine J_istore_n dX7_goes_193 rfl (by decide) ?_
                    refine Jz_iinc 1 dX7_goes_194 rfl rfl (by decide) jEq.rf (by decide) (by omega) (by omega) (fun y194 he194 => ?_)
                    refine J_goto (tgt := 124) dX7_goes_197 (by decide) ?_
                    refine J.mask [true, true, true, true, true] ?_
                    exact ih124 _ y188 y194 hW he ha0 hb3 hb10 hb17 hb48 hO3 hK3 (by (try simp only [he188.eq, he194.eq, true_and, and_true]) <;> omega) (by (try simp only [he188.eq, he194.eq, true_and, and_true]) <;> omega) (by (try simp only [he188.eq, he194.eq, true_and, and_true]) <;> omega)
                  · refine J_aload_n dX7_goes_170 rfl ?_
                    refine J_get jf_X7_28 dX7_goes_171 hO3 hF17 ?_
                    refine J_iload dX7_goes_174 rfl ?_
                    obtain ⟨n176, f176, hA176, hN176, hM176, hv176⟩ := WT_arrI (r := (-2147483648, 2147483647)) hW id rfl hb17
                    obtain rfl := hM176 121 rfl
                    clear hN176 hM176
                    refine Jz_ialdw jEq.rf dX7_goes_176 hA176 rfl (by omega) (by omega) (fun y176 => ?_)
                    refine J_aload_n dX7_goes_177 rfl ?_
                    refine J_get jf_X7_28 dX7_goes_178 hO3 hF17 ?_
                    refine J_iload_n dX7_goes_181 rfl ?_
                    refine Jz_iconst 1 dX7_goes_182 (by decide) (fun y182 he182 => ?_)
                    refine Jz_iadd jEq.rf he182 dX7_goes_183 (by omega) (by omega) (fun y183 he183 => ?_)
                    refine Jz_ialdw he183 dX7_goes_184 hA176 rfl (by omega) (by omega) (fun y184 => ?_)
                    refine Jz_icmp_eq (tgt := 192) jEq.rf jEq.rf dX7_goes_185 (by decide) (fun c185 => ?_) (fun c185 => ?_)
                    · refine Jz_iconst 0 dX7_goes_192 (by decide) (fun y192 he192 => ?_)
                      refine J_istore_n dX7_goes_193 rfl (by decide) ?_
                      refine Jz_iinc 1 dX7_goes_194 rfl rfl (by decide) jEq.rf (by decide) (by omega) (by omega) (fun y194 he194 => ?_)
                      refine J_goto (tgt := 124) dX7_goes_197 (by decide) ?_
                      refine J.mask [true, true, true, true, true] ?_
                      exact ih124 _ y192 y194 hW he ha0 hb3 hb10 hb17 hb48 hO3 hK3 (by (try simp only [he192.eq, he194.eq, true_and, and_true]) <;> omega) (by (try simp only [he192.eq, he194.eq, true_and, and_true]) <;> omega) (by (try simp only [he192.eq, he194.eq, true_and, and_true]) <;> omega)
                    · refine Jz_iconst 1 dX7_goes_188 (by decide) (fun y188 he188 => ?_)
                      refine J_goto (tgt := 193) dX7_goes_189 (by decide) ?_
                      refine J_istore_n dX7_goes_193 rfl (by decide) ?_
                      refine Jz_iinc 1 dX7_goes_194 rfl rfl (by decide) jEq.rf (by decide) (by omega) (by omega) (fun y194 he194 => ?_)
                      refine J_goto (tgt := 124) dX7_goes_197 (by decide) ?_
                      refine J.mask [true, true, true, true, true] ?_
                      exact ih124 _ y188 y194 hW he ha0 hb3 hb10 hb17 hb48 hO3 hK3 (by (try simp only [he188.eq, he194.eq, true_and, and_true]) <;> omega) (by (try simp only [he188.eq, he194.eq, true_and, and_true]) <;> omega) (by (try simp only [he188.eq, he194.eq, true_and, and_true]) <;> omega)
        refine J.mask [true, true, true, true, true] ?_
        exact L124 _ _ i2n25 y121 hW he ha0 hb3 hb10 hb17 hb48 hO3 hK3 (by (try simp only [he121.eq, true_and, and_true]) <;> omega) (by (try simp only [he121.eq, true_and, and_true]) <;> omega) (Nat.lt_succ_self _)
  refine J.mask [true, true, true, true, false] ?_
  exact L25 _ _ y0 y23 hW he ha0 hb3 hb10 hb17 hO3 hK3 (by (try simp only [he0.eq, he23.eq, true_and, and_true]) <;> omega) (by (try simp only [he0.eq, he23.eq, true_and, and_true]) <;> omega) (Nat.lt_succ_self _)
set_option maxRecDepth 100000 in
set_option maxHeartbeats 8000000 in
theorem w_X7_keeps {tS : jTS} (d : Nat) (V0 : jH) (a0 : Nat) (x1 : Int32) (v5 : Int32) (hd : 0 ≤ d) (hW : WT V0) (ha0 : jis V0 (.inr 5) a0) (hf_v5 : jfI V0 a0 5 5 v5) (hp0 : 0 ≤ x1.toInt) (hp1 : x1.toInt ≤ 15) (hp2 : v5.toInt ≤ 60) : jTot tS mX7_keeps d [.ref a0, .int x1] V0 0 0 (jPost [.inl 15, .inl 16] V0 rV) := by
  refine jTot.of_J [some (.ref a0), some (.int x1), none] moX7_keeps (Nat.le_of_ble_eq_true rfl) rfl ?_
  have hrx1 := j_rng x1
  have he : jeff [.inl 15, .inl 16] V0 V0 := jeff.refl _ _
  obtain ⟨fs_a0, hO_a0, hK_a0⟩ := WT_obj hW id ha0
  have hF_v5 := hf_v5.get hO_a0
  have hrv5 : 0 ≤ v5.toInt ∧ v5.toInt ≤ 120 := jok_rngI hK_a0 rfl hF_v5
  refine J_aload_n dX7_keeps_0 rfl ?_
  obtain ⟨w1, hF1, b1, rfl, hb1⟩ := hK_a0.2 2 (.inr (some (.inl 15))) rfl
  refine J_get jf_X7_13 dX7_keeps_1 hO_a0 hF1 ?_
  refine J_iload_n dX7_keeps_4 rfl ?_
  refine J_aload_n dX7_keeps_5 rfl ?_
  refine J_get jf_X7_109 dX7_keeps_6 hO_a0 hF_v5 ?_
  obtain ⟨n9, f9, hA9, hN9, hM9, hv9⟩ := WT_arrI (r := (0, 60)) hW id rfl hb1
  obtain rfl := hM9 16 rfl
  clear hN9 hM9
  refine Jz_iastw (r := (0, 60)) jEq.rf jEq.rf hW id dX7_keeps_9 hA9 rfl rfl (by omega) (by omega) (by omega) (by omega) (fun V9 hW hx9 => ?_)
  have he := he.trans (hx9.sub (jsub_of rfl))
  have ha0 := ha0.mono hx9.1
  have hb1 := hb1.mono hx9.1
  have hO_a0 := hx9.2 _ _ hO_a0 (jnot_of rfl)
  have hK_a0 := hK_a0.mono hx9.1
  refine Jz_iconst 0 dX7_keeps_10 (by decide) (fun y10 he10 => ?_)
  refine J_istore_n dX7_keeps_11 rfl (by decide) ?_
  have L12 : ∀ (N : Nat) (V : jH) (i2n12 : Int32), WT V → jeff [.inl 15, .inl 16] V0 V → (jis V (.inr 5) a0) → (jis V (.inl 15) b1) → (V a0 = some (.inr (5, fs_a0))) → (jokO V (jFs 5) fs_a0) → (0 ≤ i2n12.toInt) → (300 - i2n12.toInt).toNat < N → J tS mX7_keeps d 12 [some (.ref a0), some (.int x1), some (.int i2n12)] [] V 0 0 (jPost [.inl 15, .inl 16] V0 rV) := by
    intro N
    induction N with
    | zero => intro V i2n12 hW he ha0 hb1 hO_a0 hK_a0 hi2 hm; exact absurd hm (Nat.not_lt_zero _)
    | succ N ih =>
      intro V i2n12 hW he ha0 hb1 hO_a0 hK_a0 hi2 hm
      have ih12 := ih
      have hri2 := j_rng i2n12
      refine J_iload_n dX7_keeps_12 rfl ?_
      refine J_aload_n dX7_keeps_13 rfl ?_
      refine J_get jf_X7_109 dX7_keeps_14 hO_a0 hF_v5 ?_
      refine Jz_icmp_ge (tgt := 43) jEq.rf jEq.rf dX7_keeps_17 (by decide) (fun c17 => ?_) (fun c17 => ?_)
      · exact J_ret (r := none) dX7_keeps_43 ⟨rfl, rfl⟩ (⟨hW, he, rfl⟩)
      · refine J_aload_n dX7_keeps_20 rfl ?_
        obtain ⟨w21, hF21, b21, rfl, hb21⟩ := hK_a0.2 3 (.inr (some (.inl 16))) rfl
        refine J_get jf_X7_16 dX7_keeps_21 hO_a0 hF21 ?_
        refine Jz_bipush 60 dX7_keeps_24 (by decide) (fun y24 he24 => ?_)
        refine J_iload_n dX7_keeps_26 rfl ?_
        refine Jz_imul he24 jEq.rf dX7_keeps_27 (by omega) (by omega) (fun y27 he27 => ?_)
        refine J_iload_n dX7_keeps_28 rfl ?_
        refine Jz_iadd he27 jEq.rf dX7_keeps_29 (by omega) (by omega) (fun y29 he29 => ?_)
        refine J_aload_n dX7_keeps_30 rfl ?_
        obtain ⟨w31, hF31, b31, rfl, hb31⟩ := hK_a0.2 4 (.inr (some (.inl 17))) rfl
        refine J_get jf_X7_19 dX7_keeps_31 hO_a0 hF31 ?_
        refine J_iload_n dX7_keeps_34 rfl ?_
        obtain ⟨n35, f35, hA35, hN35, hM35, hv35⟩ := WT_arrI (r := (-2147483648, 2147483647)) hW id rfl hb31
        obtain rfl := hM35 120 rfl
        clear hN35 hM35
        refine Jz_ialdw jEq.rf dX7_keeps_35 hA35 rfl (by omega) (by omega) (fun y35 => ?_)
        obtain ⟨n36, f36, hA36, hN36, hM36, hv36⟩ := WT_arrI (r := (-2147483648, 2147483647)) hW id rfl hb21
        obtain rfl := hM36 960 rfl
        clear hN36 hM36
        refine Jz_iastw (r := ((-2147483648), 2147483647)) he29 jEq.rf hW id dX7_keeps_36 hA36 rfl rfl (by omega) (by omega) (j_rng _).1 (j_rng _).2 (fun V36 hW hx36 => ?_)
        have he := he.trans (hx36.sub (jsub_of rfl))
        have ha0 := ha0.mono hx36.1
        have hb1 := hb1.mono hx36.1
        have hb21 := hb21.mono hx36.1
        have hb31 := hb31.mono hx36.1
        have hO_a0 := hx36.2 _ _ hO_a0 (jnot_of rfl)
        have hK_a0 := hK_a0.mono hx36.1
        have hA35 := hx36.2 _ _ hA35 (jnot_of rfl)
        refine Jz_iinc 1 dX7_keeps_37 rfl rfl (by decide) jEq.rf (by decide) (by omega) (by omega) (fun y37 he37 => ?_)
        refine J_goto (tgt := 12) dX7_keeps_40 (by decide) ?_
        refine J.mask [true, true, true] ?_
        exact ih12 _ y37 hW he ha0 hb1 hO_a0 hK_a0 (by (try simp only [he37.eq, true_and, and_true]) <;> omega) (by (try simp only [he37.eq, true_and, and_true]) <;> omega)
  refine J.mask [true, true, true] ?_
  exact L12 _ _ y10 hW he ha0 hb1 hO_a0 hK_a0 (by (try simp only [he10.eq, true_and, and_true]) <;> omega) (Nat.lt_succ_self _)
set_option maxRecDepth 100000 in
set_option maxHeartbeats 8000000 in
theorem w_X7_becomes {tS : jTS} (d : Nat) (V0 : jH) (a0 : Nat) (x1 : Int32) (hd : 2 ≤ d) (hW : WT V0) (ha0 : jis V0 (.inr 5) a0) (hp0 : 0 ≤ x1.toInt) (hp1 : x1.toInt ≤ 15) : jTot tS mX7_becomes d [.ref a0, .int x1] V0 0 0 (jPost [.inl 18, .inl 19, .inl 20, .inl 15, .inl 16] V0 (fun r _ => ∃ y : Int32, r = some (.int y) ∧ ((-2147483648) ≤ y.toInt) ∧ (y.toInt ≤ 2147483647))) := by
  refine jTot.of_J [some (.ref a0), some (.int x1)] moX7_becomes (Nat.le_of_ble_eq_true rfl) rfl ?_
  have hrx1 := j_rng x1
  have he : jeff [.inl 18, .inl 19, .inl 20, .inl 15, .inl 16] V0 V0 := jeff.refl _ _
  refine J_aload_n dX7_becomes_0 rfl ?_
  refine J_aload_n dX7_becomes_1 rfl ?_
  obtain ⟨fs2, hO2, hK2⟩ := WT_obj hW id ha0
  obtain ⟨w2, hF2, b2, rfl, hb2⟩ := hK2.2 1 (.inr (some (.inl 14))) rfl
  refine J_get jf_X7_7 dX7_becomes_2 hO2 hF2 ?_
  refine J_iload_n dX7_becomes_5 rfl ?_
  obtain ⟨n6, f6, hA6, hN6, hM6, hv6⟩ := WT_arrI (r := (0, 3)) hW id rfl hb2
  obtain rfl := hM6 16 rfl
  clear hN6 hM6
  refine Jz_ialdr (r := (0, 3)) jEq.rf dX7_becomes_6 hA6 rfl hv6 (by omega) (by omega) (fun y6 hl6 hh6 => ?_)
  dsimp only at hl6 hh6
  refine Jw_callV1 (q9 := (RX7, TX7, 34)) moX7_goes jw_ml_X7_122 jw_im_X7_goes jw_se_X7_goes ha0 rfl rfl dX7_becomes_7 (w_X7_goes (d - 1) _ a0 y6 (by omega) hW  ha0) (by omega) (Nat.zero_le _) (Nat.zero_le _) (Nat.le_of_ble_eq_true rfl) (fun r7 V7 h7 => ?_)
  obtain ⟨hW, hx7, hr7⟩ := h7
  have he := he.trans (hx7.sub (jsub_of rfl))
  have ha0 := ha0.mono hx7.1
  have hb2 := hb2.mono hx7.1
  have hO2 := hx7.2 _ _ hO2 (jnot_of rfl)
  have hK2 := hK2.mono hx7.1
  have hA6 := hx7.2 _ _ hA6 (jnot_of rfl)
  obtain ⟨y7, rfl, hl7, hh7⟩ := hr7
  refine Jz_if_ne (tgt := 16) jEq.rf dX7_becomes_10 (by decide) (fun c10 => ?_) (fun c10 => ?_)
  · refine J_aload_n dX7_becomes_16 rfl ?_
    obtain ⟨w17, hF17, y17, rfl, hl17, hh17⟩ := hK2.2 5 (.inl (0, 120)) rfl
    dsimp only at hl17 hh17
    refine J_get jf_X7_109 dX7_becomes_17 hO2 hF17 ?_
    refine Jz_bipush 60 dX7_becomes_20 (by decide) (fun y20 he20 => ?_)
    refine Jz_icmp_le (tgt := 28) jEq.rf he20 dX7_becomes_22 (by decide) (fun c22 => ?_) (fun c22 => ?_)
    · refine J_aload_n dX7_becomes_28 rfl ?_
      refine J_iload_n dX7_becomes_29 rfl ?_
      refine Jw_callV1 (q9 := (RX7, TX7, 34)) moX7_keeps jw_ml_X7_126 jw_im_X7_keeps jw_se_X7_keeps ha0 rfl rfl dX7_becomes_30 (w_X7_keeps (d - 1) _ a0 x1 y17 (by omega) hW  ha0 ⟨_, hO2, hF17⟩ (by omega) (by omega) (by omega)) (by omega) (Nat.zero_le _) (Nat.zero_le _) (Nat.le_of_ble_eq_true rfl) (fun r30 V30 h30 => ?_)
      obtain ⟨hW, hx30, hr30⟩ := h30
      have he := he.trans (hx30.sub (jsub_of rfl))
      have ha0 := ha0.mono hx30.1
      have hb2 := hb2.mono hx30.1
      have hO2 := hx30.2 _ _ hO2 (jnot_of rfl)
      have hK2 := hK2.mono hx30.1
      have hA6 := hx30.2 _ _ hA6 (jnot_of rfl)
      cases hr30
      refine J_aload_n dX7_becomes_33 rfl ?_
      refine J_get jf_X7_109 dX7_becomes_34 hO2 hF17 ?_
      exact J_ret (r := some (.int _)) dX7_becomes_37 ⟨rfl, _, rfl, rfl⟩ (⟨hW, he, ⟨_, rfl, (j_rng _).1, (j_rng _).2⟩⟩)
    · refine Jz_bipush (-4) dX7_becomes_25 (by decide) (fun y25 he25 => ?_)
      exact J_ret (r := some (.int _)) dX7_becomes_27 ⟨rfl, _, rfl, rfl⟩ (⟨hW, he, ⟨_, rfl, (j_rng _).1, (j_rng _).2⟩⟩)
  · refine Jz_bipush (-3) dX7_becomes_13 (by decide) (fun y13 he13 => ?_)
    exact J_ret (r := some (.int _)) dX7_becomes_15 ⟨rfl, _, rfl, rfl⟩ (⟨hW, he, ⟨_, rfl, (j_rng _).1, (j_rng _).2⟩⟩)
set_option maxRecDepth 100000 in
set_option maxHeartbeats 8000000 in
theorem w_X7_step {tS : jTS} (d : Nat) (V0 : jH) (a0 : Nat) (x1 : Int32) (x2 : Int32) (hd : 3 ≤ d) (hW : WT V0) (ha0 : jis V0 (.inr 5) a0) : jTot tS mX7_step d [.ref a0, .int x1, .int x2] V0 0 0 (fun r V => (jPost [.inr 5, .inl 17, .inl 18, .inl 19, .inl 20, .inl 15, .inl 16] V0 (fun r _ => ∃ y : Int32, r = some (.int y) ∧ ((-2147483648) ≤ y.toInt) ∧ (y.toInt ≤ 2147483647))) r V ∧ jkc 5 [0, 23, 24] V0 V) := by
  refine jTot.of_J [some (.ref a0), some (.int x1), some (.int x2)] moX7_step (Nat.le_of_ble_eq_true rfl) rfl ?_
  have hrx1 := j_rng x1
  have hrx2 := j_rng x2
  have he : jeff [.inr 5, .inl 17, .inl 18, .inl 19, .inl 20, .inl 15, .inl 16] V0 V0 := jeff.refl _ _
  have hkp : jkc 5 [0, 23, 24] V0 V0 := jkc.rf
  refine J_aload_n dX7_step_0 rfl ?_
  refine J_iload_n dX7_step_1 rfl ?_
  refine Jw_callV1 (q9 := (RX7, TX7, 34)) moX7_isWalk jw_ml_X7_130 jw_im_X7_isWalk jw_se_X7_isWalk ha0 rfl rfl dX7_step_2 (w_X7_isWalk (d - 1) _ a0 x1 (by omega) hW  ha0) (by omega) (Nat.zero_le _) (Nat.zero_le _) (Nat.le_of_ble_eq_true rfl) (fun r2 V2 h2 => ?_)
  obtain ⟨⟨y2, rfl, hl2, hh2, hI2_0⟩, hE2⟩ := h2
  have hE2 := hE2.symm
  subst hE2
  refine Jz_if_eq (tgt := 27) jEq.rf dX7_step_5 (by decide) (fun c5 => ?_) (fun c5 => ?_)
  · refine Jz_bipush (-2) dX7_step_27 (by decide) (fun y27 he27 => ?_)
    exact J_ret (r := some (.int _)) dX7_step_29 ⟨rfl, _, rfl, rfl⟩ (⟨⟨hW, he, ⟨_, rfl, (j_rng _).1, (j_rng _).2⟩⟩, hkp⟩)
  · have q5_0 := hI2_0.of (by omega)
    refine J_iload_n dX7_step_8 rfl ?_
    refine Jz_iconst 0 dX7_step_9 (by decide) (fun y9 he9 => ?_)
    refine J_aload_n dX7_step_10 rfl ?_
    obtain ⟨fs11, hO11, hK11⟩ := WT_obj hW id ha0
    obtain ⟨w11, hF11, b11, rfl, hb11⟩ := hK11.2 1 (.inr (some (.inl 14))) rfl
    refine J_get jf_X7_7 dX7_step_11 hO11 hF11 ?_
    refine J_iload_n dX7_step_14 rfl ?_
    obtain ⟨n15, f15, hA15, hN15, hM15, hv15⟩ := WT_arrI (r := (0, 3)) hW id rfl hb11
    obtain rfl := hM15 16 rfl
    clear hN15 hM15
    refine Jz_ialdr (r := (0, 3)) jEq.rf dX7_step_15 hA15 rfl hv15 (by omega) (by omega) (fun y15 hl15 hh15 => ?_)
    dsimp only at hl15 hh15
    refine J_callS1 moX7_directions jw_ml_X7_133 jw_st_X7_directions dX7_step_16 (w_X7_directions (d - 1) _ y15 (by omega)   ) (by omega) (Nat.zero_le _) (Nat.zero_le _) (Nat.le_of_ble_eq_true rfl) (fun r16 V16 h16 => ?_)
    obtain ⟨⟨y16, rfl, hl16, hh16, hP16_0⟩, hE16⟩ := h16
    have hE16 := hE16.symm
    subst hE16
    have hz16 : jEq y16.toInt (jdir (y15.toInt)) := hP16_0
    simp only [hP16_0] at hl16 hh16
    clear hP16_0
    refine Jz_iconst 1 dX7_step_19 (by decide) (fun y19 he19 => ?_)
    refine Jz_isub hz16 he19 dX7_step_20 (by omega) (by omega) (fun y20 he20 => ?_)
    refine J_callS3 moX7_in jw_ml_X7_105 jw_st_X7_in dX7_step_21 (w_X7_in (d - 1) _ x2 y9 y20 (by omega)   ) (by omega) (Nat.zero_le _) (Nat.zero_le _) (Nat.le_of_ble_eq_true rfl) (fun r21 V21 h21 => ?_)
    obtain ⟨⟨y21, rfl, hl21, hh21, hI21_0, hI21_1⟩, hE21⟩ := h21
    have hE21 := hE21.symm
    subst hE21
    refine Jz_if_ne (tgt := 30) jEq.rf dX7_step_24 (by decide) (fun c24 => ?_) (fun c24 => ?_)
    · have q24_0 := hI21_0.of (by omega)
      try simp only [he9.eq, he20.eq] at q24_0
      refine J_aload_n dX7_step_30 rfl ?_
      refine J_iload_n dX7_step_31 rfl ?_
      refine Jw_callV1 (q9 := (RX7, TX7, 34)) moX7_brings jw_ml_X7_137 jw_im_X7_brings jw_se_X7_brings ha0 rfl rfl dX7_step_32 (w_X7_brings (d - 1) _ a0 x1 (by omega) hW  ha0 (by omega) (by omega)) (by omega) (Nat.zero_le _) (Nat.zero_le _) (Nat.le_of_ble_eq_true rfl) (fun r32 V32 h32 => ?_)
      obtain ⟨h32, hX32_0, ⟨fv32_0, hfv32_0, hfp32_0⟩⟩ := h32
      obtain ⟨hW, hx32, hr32⟩ := h32
      have he := he.trans (hx32.sub (jsub_of rfl))
      have hkp := hkp.trans hX32_0
      have ha0 := ha0.mono hx32.1
      have hb11 := hb11.mono hx32.1
      obtain ⟨fs32a0, hOfs32a0, hRfs32a0⟩ := hx32.1.keep hO11
      have hKfs32a0 : jokO _ (jFs 5) fs32a0 := hW _ _ id hOfs32a0
      have hFfs32a0_1 := hRfs32a0 _ _ hF11
      have hA15 := hx32.2 _ _ hA15 (jnot_of rfl)
      cases hr32
      have hFv32_0 := hfv32_0.get hOfs32a0
      refine J_aload_n dX7_step_35 rfl ?_
      obtain ⟨w36, hF36, b36, rfl, hb36⟩ := hKfs32a0.2 4 (.inr (some (.inl 17))) rfl
      refine J_get jf_X7_19 dX7_step_36 hOfs32a0 hF36 ?_
      refine J_aload_n dX7_step_39 rfl ?_
      refine J_get jf_X7_109 dX7_step_40 hOfs32a0 hFv32_0 ?_
      refine J_iload_n dX7_step_43 rfl ?_
      obtain ⟨n44, f44, hA44, hN44, hM44, hv44⟩ := WT_arrI (r := (-2147483648, 2147483647)) hW id rfl hb36
      obtain rfl := hM44 120 rfl
      clear hN44 hM44
      refine Jz_iastw (r := ((-2147483648), 2147483647)) jEq.rf jEq.rf hW id dX7_step_44 hA44 rfl rfl (by omega) (by omega) (j_rng _).1 (j_rng _).2 (fun V44 hW hx44 => ?_)
      have he := he.trans (hx44.sub (jsub_of rfl))
      have hkp := hkp.trans (jkc.of hx44 (jnot_of rfl))
      have ha0 := ha0.mono hx44.1
      have hb11 := hb11.mono hx44.1
      have hb36 := hb36.mono hx44.1
      have hOfs32a0 := hx44.2 _ _ hOfs32a0 (jnot_of rfl)
      have hKfs32a0 := hKfs32a0.mono hx44.1
      have hA15 := hx44.2 _ _ hA15 (jnot_of rfl)
      refine J_aload_n dX7_step_45 rfl ?_
      refine J_dup dX7_step_46 rfl ?_
      refine J_get jf_X7_109 dX7_step_47 hOfs32a0 hFv32_0 ?_
      refine Jz_iconst 1 dX7_step_50 (by decide) (fun y50 he50 => ?_)
      refine Jz_iadd jEq.rf he50 dX7_step_51 (by omega) (by omega) (fun y51 he51 => ?_)
      refine Jz_putI hOfs32a0 hW id rfl jf_X7_109 jt_X7_5 he51 dX7_step_52 (by omega) (by omega) (fun _ _ => ⟨rfl, rfl⟩) (fun V52 fs52 hW hx52 hO52 hS52 hT52 hB52 => ?_)
      have hK52 : jokO _ (jFs 5) fs52 := hW _ _ id hO52
      have hF52_1 := (hT52 1 (by decide)).trans hFfs32a0_1
      have hF52_4 := (hT52 4 (by decide)).trans hF36
      have he := he.trans (hx52.sub (jsub_of rfl))
      have hkp := hkp.trans (jkc.put hOfs32a0 hO52 hT52 hB52 (by decide))
      have ha0 := ha0.mono hx52.1
      have hb11 := hb11.mono hx52.1
      have hb36 := hb36.mono hx52.1
      have hA15 := hx52.2 _ _ hA15 (jnot_of rfl)
      refine J_aload_n dX7_step_55 rfl ?_
      refine J_iload_n dX7_step_56 rfl ?_
      refine Jw_callV1 (q9 := (RX7, TX7, 34)) moX7_becomes jw_ml_X7_140 jw_im_X7_becomes jw_se_X7_becomes ha0 rfl rfl dX7_step_57 (w_X7_becomes (d - 1) _ a0 x1 (by omega) hW  ha0 (by omega) (by omega)) (by omega) (Nat.zero_le _) (Nat.zero_le _) (Nat.le_of_ble_eq_true rfl) (fun r57 V57 h57 => ?_)
      obtain ⟨hW, hx57, hr57⟩ := h57
      have he := he.trans (hx57.sub (jsub_of rfl))
      have hkp := hkp.trans (jkc.of hx57 (jnot_of rfl))
      have ha0 := ha0.mono hx57.1
      have hb11 := hb11.mono hx57.1
      have hb36 := hb36.mono hx57.1
      have hO52 := hx57.2 _ _ hO52 (jnot_of rfl)
      have hK52 := hK52.mono hx57.1
      have hA15 := hx57.2 _ _ hA15 (jnot_of rfl)
      obtain ⟨y57, rfl, hl57, hh57⟩ := hr57
      clear hl57 hh57
      exact J_ret (r := some (.int _)) dX7_step_60 ⟨rfl, _, rfl, rfl⟩ (⟨⟨hW, he, ⟨_, rfl, (j_rng _).1, (j_rng _).2⟩⟩, hkp⟩)
    · have q24_1 := hI21_1.of (by omega)
      try simp only [he9.eq, he20.eq] at q24_1
      refine Jz_bipush (-2) dX7_step_27 (by decide) (fun y27 he27 => ?_)
      exact J_ret (r := some (.int _)) dX7_step_29 ⟨rfl, _, rfl, rfl⟩ (⟨⟨hW, he, ⟨_, rfl, (j_rng _).1, (j_rng _).2⟩⟩, hkp⟩)
set_option maxRecDepth 100000 in
set_option maxHeartbeats 8000000 in
theorem w_X7_back {tS : jTS} (d : Nat) (V0 : jH) (a0 : Nat) (x1 : Int32) (x2 : Int32) (hd : 2 ≤ d) (hW : WT V0) (ha0 : jis V0 (.inr 5) a0) : jTot tS mX7_back d [.ref a0, .int x1, .int x2] V0 0 0 (jPost [.inl 15] V0 (fun r _ => ∃ y : Int32, r = some (.int y) ∧ ((-2147483648) ≤ y.toInt) ∧ (y.toInt ≤ 2147483647))) := by
  refine jTot.of_J [some (.ref a0), some (.int x1), some (.int x2)] moX7_back (Nat.le_of_ble_eq_true rfl) rfl ?_
  have hrx1 := j_rng x1
  have hrx2 := j_rng x2
  have he : jeff [.inl 15] V0 V0 := jeff.refl _ _
  refine J_aload_n dX7_back_0 rfl ?_
  refine J_iload_n dX7_back_1 rfl ?_
  refine Jw_callV1 (q9 := (RX7, TX7, 34)) moX7_isWalk jw_ml_X7_130 jw_im_X7_isWalk jw_se_X7_isWalk ha0 rfl rfl dX7_back_2 (w_X7_isWalk (d - 1) _ a0 x1 (by omega) hW  ha0) (by omega) (Nat.zero_le _) (Nat.zero_le _) (Nat.le_of_ble_eq_true rfl) (fun r2 V2 h2 => ?_)
  obtain ⟨⟨y2, rfl, hl2, hh2, hI2_0⟩, hE2⟩ := h2
  have hE2 := hE2.symm
  subst hE2
  refine Jz_if_eq (tgt := 22) jEq.rf dX7_back_5 (by decide) (fun c5 => ?_) (fun c5 => ?_)
  · refine Jz_bipush (-2) dX7_back_22 (by decide) (fun y22 he22 => ?_)
    exact J_ret (r := some (.int _)) dX7_back_24 ⟨rfl, _, rfl, rfl⟩ (⟨hW, he, ⟨_, rfl, (j_rng _).1, (j_rng _).2⟩⟩)
  · have q5_0 := hI2_0.of (by omega)
    refine J_iload_n dX7_back_8 rfl ?_
    refine Jz_iconst 0 dX7_back_9 (by decide) (fun y9 he9 => ?_)
    refine J_aload_n dX7_back_10 rfl ?_
    obtain ⟨fs11, hO11, hK11⟩ := WT_obj hW id ha0
    obtain ⟨w11, hF11, b11, rfl, hb11⟩ := hK11.2 2 (.inr (some (.inl 15))) rfl
    refine J_get jf_X7_13 dX7_back_11 hO11 hF11 ?_
    refine J_iload_n dX7_back_14 rfl ?_
    obtain ⟨n15, f15, hA15, hN15, hM15, hv15⟩ := WT_arrI (r := (0, 60)) hW id rfl hb11
    obtain rfl := hM15 16 rfl
    clear hN15 hM15
    refine Jz_iald (r := (0, 60)) jEq.rf dX7_back_15 hA15 rfl hv15 (by omega) (by omega) (fun y15 hf15 hl15 hh15 => ?_)
    dsimp only at hl15 hh15
    refine J_callS3 moX7_in jw_ml_X7_105 jw_st_X7_in dX7_back_16 (w_X7_in (d - 1) _ x2 y9 y15 (by omega)   ) (by omega) (Nat.zero_le _) (Nat.zero_le _) (Nat.le_of_ble_eq_true rfl) (fun r16 V16 h16 => ?_)
    obtain ⟨⟨y16, rfl, hl16, hh16, hI16_0, hI16_1⟩, hE16⟩ := h16
    have hE16 := hE16.symm
    subst hE16
    refine Jz_if_ne (tgt := 25) jEq.rf dX7_back_19 (by decide) (fun c19 => ?_) (fun c19 => ?_)
    · have q19_0 := hI16_0.of (by omega)
      try simp only [he9.eq] at q19_0
      refine J_aload_n dX7_back_25 rfl ?_
      refine J_get jf_X7_13 dX7_back_26 hO11 hF11 ?_
      refine J_iload_n dX7_back_29 rfl ?_
      refine J_dup2 dX7_back_30 rfl rfl ?_
      refine Jz_iald (r := (0, 60)) jEq.rf dX7_back_31 hA15 rfl hv15 (by omega) (by omega) (fun y31 hf31 hl31 hh31 => ?_)
      dsimp only at hl31 hh31
      clear hl31 hh31
      have he31 : jEq y31.toInt (y15.toInt) := by rw [← hf31, hf15]; exact jEq.rf
      refine J_iload_n dX7_back_32 rfl ?_
      refine Jz_isub he31 jEq.rf dX7_back_33 (by omega) (by omega) (fun y33 he33 => ?_)
      refine Jz_iastw (r := (0, 60)) jEq.rf he33 hW id dX7_back_34 hA15 rfl rfl (by omega) (by omega) (by omega) (by omega) (fun V34 hW hx34 => ?_)
      have he := he.trans (hx34.sub (jsub_of rfl))
      have ha0 := ha0.mono hx34.1
      have hb11 := hb11.mono hx34.1
      have hO11 := hx34.2 _ _ hO11 (jnot_of rfl)
      have hK11 := hK11.mono hx34.1
      refine J_aload_n dX7_back_35 rfl ?_
      refine J_get jf_X7_13 dX7_back_36 hO11 hF11 ?_
      refine J_iload_n dX7_back_39 rfl ?_
      obtain ⟨n40, f40, hA40, hN40, hM40, hv40⟩ := WT_arrI (r := (0, 60)) hW id rfl hb11
      obtain rfl := hM40 16 rfl
      clear hN40 hM40
      refine Jz_ialdr (r := (0, 60)) jEq.rf dX7_back_40 hA40 rfl hv40 (by omega) (by omega) (fun y40 hl40 hh40 => ?_)
      dsimp only at hl40 hh40
      exact J_ret (r := some (.int _)) dX7_back_41 ⟨rfl, _, rfl, rfl⟩ (⟨hW, he, ⟨_, rfl, (j_rng _).1, (j_rng _).2⟩⟩)
    · have q19_1 := hI16_1.of (by omega)
      try simp only [he9.eq] at q19_1
      refine Jz_bipush (-2) dX7_back_22 (by decide) (fun y22 he22 => ?_)
      exact J_ret (r := some (.int _)) dX7_back_24 ⟨rfl, _, rfl, rfl⟩ (⟨hW, he, ⟨_, rfl, (j_rng _).1, (j_rng _).2⟩⟩)
set_option maxRecDepth 100000 in
set_option maxHeartbeats 8000000 in
theorem w_X7_pivot {tS : jTS} (d : Nat) (V0 : jH) (a0 : Nat) (x1 : Int32) (x2 : Int32) (x3 : Int32) (hd : 3 ≤ d) (hW : WT V0) (ha0 : jis V0 (.inr 5) a0) : jTot tS mX7_pivot d [.ref a0, .int x1, .int x2, .int x3] V0 0 0 (fun r V => (jPost [.inr 5, .inl 17, .inl 18, .inl 19, .inl 20, .inl 15, .inl 16] V0 (fun r _ => ∃ y : Int32, r = some (.int y) ∧ ((-2147483648) ≤ y.toInt) ∧ (y.toInt ≤ 2147483647))) r V ∧ jkc 5 [0, 23, 24] V0 V) := by
  refine jTot.of_J [some (.ref a0), some (.int x1), some (.int x2), some (.int x3), none] moX7_pivot (Nat.le_of_ble_eq_true rfl) rfl ?_
  have hrx1 := j_rng x1
  have hrx2 := j_rng x2
  have hrx3 := j_rng x3
  have he : jeff [.inr 5, .inl 17, .inl 18, .inl 19, .inl 20, .inl 15, .inl 16] V0 V0 := jeff.refl _ _
  have hkp : jkc 5 [0, 23, 24] V0 V0 := jkc.rf
  refine J_aload_n dX7_pivot_0 rfl ?_
  refine J_iload_n dX7_pivot_1 rfl ?_
  refine Jw_callV1 (q9 := (RX7, TX7, 34)) moX7_isWalk jw_ml_X7_130 jw_im_X7_isWalk jw_se_X7_isWalk ha0 rfl rfl dX7_pivot_2 (w_X7_isWalk (d - 1) _ a0 x1 (by omega) hW  ha0) (by omega) (Nat.zero_le _) (Nat.zero_le _) (Nat.le_of_ble_eq_true rfl) (fun r2 V2 h2 => ?_)
  obtain ⟨⟨y2, rfl, hl2, hh2, hI2_0⟩, hE2⟩ := h2
  have hE2 := hE2.symm
  subst hE2
  refine Jz_if_eq (tgt := 41) jEq.rf dX7_pivot_5 (by decide) (fun c5 => ?_) (fun c5 => ?_)
  · refine Jz_bipush (-2) dX7_pivot_41 (by decide) (fun y41 he41 => ?_)
    exact J_ret (r := some (.int _)) dX7_pivot_43 ⟨rfl, _, rfl, rfl⟩ (⟨⟨hW, he, ⟨_, rfl, (j_rng _).1, (j_rng _).2⟩⟩, hkp⟩)
  · have q5_0 := hI2_0.of (by omega)
    refine J_iload_n dX7_pivot_8 rfl ?_
    refine Jz_iconst 0 dX7_pivot_9 (by decide) (fun y9 he9 => ?_)
    refine J_aload_n dX7_pivot_10 rfl ?_
    obtain ⟨fs11, hO11, hK11⟩ := WT_obj hW id ha0
    obtain ⟨w11, hF11, b11, rfl, hb11⟩ := hK11.2 2 (.inr (some (.inl 15))) rfl
    refine J_get jf_X7_13 dX7_pivot_11 hO11 hF11 ?_
    refine J_iload_n dX7_pivot_14 rfl ?_
    obtain ⟨n15, f15, hA15, hN15, hM15, hv15⟩ := WT_arrI (r := (0, 60)) hW id rfl hb11
    obtain rfl := hM15 16 rfl
    clear hN15 hM15
    refine Jz_ialdr (r := (0, 60)) jEq.rf dX7_pivot_15 hA15 rfl hv15 (by omega) (by omega) (fun y15 hl15 hh15 => ?_)
    dsimp only at hl15 hh15
    refine J_callS3 moX7_in jw_ml_X7_105 jw_st_X7_in dX7_pivot_16 (w_X7_in (d - 1) _ x2 y9 y15 (by omega)   ) (by omega) (Nat.zero_le _) (Nat.zero_le _) (Nat.le_of_ble_eq_true rfl) (fun r16 V16 h16 => ?_)
    obtain ⟨⟨y16, rfl, hl16, hh16, hI16_0, hI16_1⟩, hE16⟩ := h16
    have hE16 := hE16.symm
    subst hE16
    refine Jz_if_eq (tgt := 41) jEq.rf dX7_pivot_19 (by decide) (fun c19 => ?_) (fun c19 => ?_)
    · have q19_1 := hI16_1.of (by omega)
      try simp only [he9.eq] at q19_1
      refine Jz_bipush (-2) dX7_pivot_41 (by decide) (fun y41 he41 => ?_)
      exact J_ret (r := some (.int _)) dX7_pivot_43 ⟨rfl, _, rfl, rfl⟩ (⟨⟨hW, he, ⟨_, rfl, (j_rng _).1, (j_rng _).2⟩⟩, hkp⟩)
    · have q19_0 := hI16_0.of (by omega)
      try simp only [he9.eq] at q19_0
      refine J_iload_n dX7_pivot_22 rfl ?_
      refine Jz_iconst 0 dX7_pivot_23 (by decide) (fun y23 he23 => ?_)
      refine J_aload_n dX7_pivot_24 rfl ?_
      obtain ⟨w25, hF25, b25, rfl, hb25⟩ := hK11.2 1 (.inr (some (.inl 14))) rfl
      refine J_get jf_X7_7 dX7_pivot_25 hO11 hF25 ?_
      refine J_iload_n dX7_pivot_28 rfl ?_
      obtain ⟨n29, f29, hA29, hN29, hM29, hv29⟩ := WT_arrI (r := (0, 3)) hW id rfl hb25
      obtain rfl := hM29 16 rfl
      clear hN29 hM29
      refine Jz_ialdr (r := (0, 3)) jEq.rf dX7_pivot_29 hA29 rfl hv29 (by omega) (by omega) (fun y29 hl29 hh29 => ?_)
      dsimp only at hl29 hh29
      refine J_callS1 moX7_turns jw_ml_X7_143 jw_st_X7_turns dX7_pivot_30 (w_X7_turns (d - 1) _ y29 (by omega)   ) (by omega) (Nat.zero_le _) (Nat.zero_le _) (Nat.le_of_ble_eq_true rfl) (fun r30 V30 h30 => ?_)
      obtain ⟨⟨y30, rfl, hl30, hh30, hP30_0⟩, hE30⟩ := h30
      have hE30 := hE30.symm
      subst hE30
      have hz30 : jEq y30.toInt (jtur (y29.toInt)) := hP30_0
      simp only [hP30_0] at hl30 hh30
      clear hP30_0
      refine Jz_iconst 1 dX7_pivot_33 (by decide) (fun y33 he33 => ?_)
      refine Jz_isub hz30 he33 dX7_pivot_34 (by omega) (by omega) (fun y34 he34 => ?_)
      refine J_callS3 moX7_in jw_ml_X7_105 jw_st_X7_in dX7_pivot_35 (w_X7_in (d - 1) _ x3 y23 y34 (by omega)   ) (by omega) (Nat.zero_le _) (Nat.zero_le _) (Nat.le_of_ble_eq_true rfl) (fun r35 V35 h35 => ?_)
      obtain ⟨⟨y35, rfl, hl35, hh35, hI35_0, hI35_1⟩, hE35⟩ := h35
      have hE35 := hE35.symm
      subst hE35
      refine Jz_if_ne (tgt := 44) jEq.rf dX7_pivot_38 (by decide) (fun c38 => ?_) (fun c38 => ?_)
      · have q38_0 := hI35_0.of (by omega)
        try simp only [he23.eq, he34.eq] at q38_0
        refine J_aload_n dX7_pivot_44 rfl ?_
        refine J_iload_n dX7_pivot_45 rfl ?_
        refine Jw_callV1 (q9 := (RX7, TX7, 34)) moX7_brings jw_ml_X7_137 jw_im_X7_brings jw_se_X7_brings ha0 rfl rfl dX7_pivot_46 (w_X7_brings (d - 1) _ a0 x1 (by omega) hW  ha0 (by omega) (by omega)) (by omega) (Nat.zero_le _) (Nat.zero_le _) (Nat.le_of_ble_eq_true rfl) (fun r46 V46 h46 => ?_)
        obtain ⟨h46, hX46_0, ⟨fv46_0, hfv46_0, hfp46_0⟩⟩ := h46
        obtain ⟨hW, hx46, hr46⟩ := h46
        have he := he.trans (hx46.sub (jsub_of rfl))
        have hkp := hkp.trans hX46_0
        have ha0 := ha0.mono hx46.1
        have hb11 := hb11.mono hx46.1
        have hb25 := hb25.mono hx46.1
        obtain ⟨fs46a0, hOfs46a0, hRfs46a0⟩ := hx46.1.keep hO11
        have hKfs46a0 : jokO _ (jFs 5) fs46a0 := hW _ _ id hOfs46a0
        have hFfs46a0_2 := hRfs46a0 _ _ hF11
        have hFfs46a0_1 := hRfs46a0 _ _ hF25
        have hA15 := hx46.2 _ _ hA15 (jnot_of rfl)
        have hA29 := hx46.2 _ _ hA29 (jnot_of rfl)
        cases hr46
        have hFv46_0 := hfv46_0.get hOfs46a0
        refine J_iload_n dX7_pivot_49 rfl ?_
        refine J_istore dX7_pivot_50 rfl (by decide) ?_
        have L52 : ∀ (N : Nat) (V : jH) (i4n52 : Int32), WT V → jeff [.inr 5, .inl 17, .inl 18, .inl 19, .inl 20, .inl 15, .inl 16] V0 V → (jis V (.inr 5) a0) → (jis V (.inl 15) b11) → (jis V (.inl 14) b25) → (jkc 5 [0, 23, 24] V0 V) → (V a0 = some (.inr (5, fs46a0))) → (jokO V (jFs 5) fs46a0) → (0 ≤ i4n52.toInt) → (300 - i4n52.toInt).toNat < N → J tS mX7_pivot d 52 [some (.ref a0), some (.int x1), some (.int x2), some (.int x3), some (.int i4n52)] [] V 0 0 (fun r V => (jPost [.inr 5, .inl 17, .inl 18, .inl 19, .inl 20, .inl 15, .inl 16] V0 (fun r _ => ∃ y : Int32, r = some (.int y) ∧ ((-2147483648) ≤ y.toInt) ∧ (y.toInt ≤ 2147483647))) r V ∧ jkc 5 [0, 23, 24] V0 V) := by
          intro N
          induction N with
          | zero => intro V i4n52 hW he ha0 hb11 hb25 hkp hOfs46a0 hKfs46a0 hi4 hm; exact absurd hm (Nat.not_lt_zero _)
          | succ N ih =>
            intro V i4n52 hW he ha0 hb11 hb25 hkp hOfs46a0 hKfs46a0 hi4 hm
            have ih52 := ih
            have hri4 := j_rng i4n52
            refine J_iload dX7_pivot_52 rfl ?_
            refine J_aload_n dX7_pivot_54 rfl ?_
            refine J_get jf_X7_109 dX7_pivot_55 hOfs46a0 hFv46_0 ?_
            refine Jz_icmp_ge (tgt := 91) jEq.rf jEq.rf dX7_pivot_58 (by decide) (fun c58 => ?_) (fun c58 => ?_)
            · refine J_aload_n dX7_pivot_91 rfl ?_
              refine J_iload_n dX7_pivot_92 rfl ?_
              refine Jw_callV1 (q9 := (RX7, TX7, 34)) moX7_becomes jw_ml_X7_140 jw_im_X7_becomes jw_se_X7_becomes ha0 rfl rfl dX7_pivot_93 (w_X7_becomes (d - 1) _ a0 x1 (by omega) hW  ha0 (by omega) (by omega)) (by omega) (Nat.zero_le _) (Nat.zero_le _) (Nat.le_of_ble_eq_true rfl) (fun r93 V93 h93 => ?_)
              obtain ⟨hW, hx93, hr93⟩ := h93
              have he := he.trans (hx93.sub (jsub_of rfl))
              have hkp := hkp.trans (jkc.of hx93 (jnot_of rfl))
              have ha0 := ha0.mono hx93.1
              have hb11 := hb11.mono hx93.1
              have hb25 := hb25.mono hx93.1
              have hOfs46a0 := hx93.2 _ _ hOfs46a0 (jnot_of rfl)
              have hKfs46a0 := hKfs46a0.mono hx93.1
              obtain ⟨y93, rfl, hl93, hh93⟩ := hr93
              clear hl93 hh93
              refine Jz_if_ge (tgt := 104) jEq.rf dX7_pivot_96 (by decide) (fun c96 => ?_) (fun c96 => ?_)
              · refine Jz_iconst 1 dX7_pivot_104 (by decide) (fun y104 he104 => ?_)
                exact J_ret (r := some (.int _)) dX7_pivot_105 ⟨rfl, _, rfl, rfl⟩ (⟨⟨hW, he, ⟨_, rfl, (j_rng _).1, (j_rng _).2⟩⟩, hkp⟩)
              · refine Jz_bipush (-3) dX7_pivot_99 (by decide) (fun y99 he99 => ?_)
                refine J_goto (tgt := 105) dX7_pivot_101 (by decide) ?_
                exact J_ret (r := some (.int _)) dX7_pivot_105 ⟨rfl, _, rfl, rfl⟩ (⟨⟨hW, he, ⟨_, rfl, (j_rng _).1, (j_rng _).2⟩⟩, hkp⟩)
            · refine J_aload_n dX7_pivot_61 rfl ?_
              obtain ⟨w62, hF62, b62, rfl, hb62⟩ := hKfs46a0.2 4 (.inr (some (.inl 17))) rfl
              refine J_get jf_X7_19 dX7_pivot_62 hOfs46a0 hF62 ?_
              refine J_iload dX7_pivot_65 rfl ?_
              refine J_aload_n dX7_pivot_67 rfl ?_
              refine J_get jf_X7_7 dX7_pivot_68 hOfs46a0 hFfs46a0_1 ?_
              refine J_iload_n dX7_pivot_71 rfl ?_
              obtain ⟨n72, f72, hA72, hN72, hM72, hv72⟩ := WT_arrI (r := (0, 3)) hW id rfl hb25
              obtain rfl := hM72 16 rfl
              clear hN72 hM72
              refine Jz_ialdr (r := (0, 3)) jEq.rf dX7_pivot_72 hA72 rfl hv72 (by omega) (by omega) (fun y72 hl72 hh72 => ?_)
              dsimp only at hl72 hh72
              refine J_iload_n dX7_pivot_73 rfl ?_
              refine J_aload_n dX7_pivot_74 rfl ?_
              refine J_get jf_X7_19 dX7_pivot_75 hOfs46a0 hF62 ?_
              refine J_iload dX7_pivot_78 rfl ?_
              obtain ⟨n80, f80, hA80, hN80, hM80, hv80⟩ := WT_arrI (r := (-2147483648, 2147483647)) hW id rfl hb62
              obtain rfl := hM80 120 rfl
              clear hN80 hM80
              refine Jz_ialdw jEq.rf dX7_pivot_80 hA80 rfl (by omega) (by omega) (fun y80 => ?_)
              refine J_callS3 moX7_turned jw_ml_X7_146 jw_st_X7_turned dX7_pivot_81 (w_X7_turned (d - 1) _ y72 x3 y80 (by omega)   ) (by omega) (Nat.zero_le _) (Nat.zero_le _) (Nat.le_of_ble_eq_true rfl) (fun r81 V81 h81 => ?_)
              obtain ⟨⟨y81, rfl, hl81, hh81⟩, hE81⟩ := h81
              have hE81 := hE81.symm
              subst hE81
              clear hl81 hh81
              refine Jz_iastw (r := ((-2147483648), 2147483647)) jEq.rf jEq.rf hW id dX7_pivot_84 hA80 rfl rfl (by omega) (by omega) (j_rng _).1 (j_rng _).2 (fun V84 hW hx84 => ?_)
              have he := he.trans (hx84.sub (jsub_of rfl))
              have hkp := hkp.trans (jkc.of hx84 (jnot_of rfl))
              have ha0 := ha0.mono hx84.1
              have hb11 := hb11.mono hx84.1
              have hb25 := hb25.mono hx84.1
              have hb62 := hb62.mono hx84.1
              have hOfs46a0 := hx84.2 _ _ hOfs46a0 (jnot_of rfl)
              have hKfs46a0 := hKfs46a0.mono hx84.1
              have hA72 := hx84.2 _ _ hA72 (jnot_of rfl)
              refine Jz_iinc 1 dX7_pivot_85 rfl rfl (by decide) jEq.rf (by decide) (by omega) (by omega) (fun y85 he85 => ?_)
              refine J_goto (tgt := 52) dX7_pivot_88 (by decide) ?_
              refine J.mask [true, true, true, true, true] ?_
              exact ih52 _ y85 hW he ha0 hb11 hb25 hkp hOfs46a0 hKfs46a0 (by (try simp only [he85.eq, true_and, and_true]) <;> omega) (by (try simp only [he85.eq, true_and, and_true]) <;> omega)
        refine J.mask [true, true, true, true, true] ?_
        exact L52 _ _ x2 hW he ha0 hb11 hb25 hkp hOfs46a0 hKfs46a0 (by omega) (Nat.lt_succ_self _)
      · have q38_1 := hI35_1.of (by omega)
        try simp only [he23.eq, he34.eq] at q38_1
        refine Jz_bipush (-2) dX7_pivot_41 (by decide) (fun y41 he41 => ?_)
        exact J_ret (r := some (.int _)) dX7_pivot_43 ⟨rfl, _, rfl, rfl⟩ (⟨⟨hW, he, ⟨_, rfl, (j_rng _).1, (j_rng _).2⟩⟩, hkp⟩)
set_option maxRecDepth 100000 in
set_option maxHeartbeats 8000000 in
theorem w_X7_join {tS : jTS} (d : Nat) (V0 : jH) (a0 : Nat) (x1 : Int32) (x2 : Int32) (hd : 3 ≤ d) (hW : WT V0) (ha0 : jis V0 (.inr 5) a0) : jTot tS mX7_join d [.ref a0, .int x1, .int x2] V0 0 0 (fun r V => (jPost [.inr 5, .inl 17, .inl 18, .inl 19, .inl 20, .inl 15, .inl 16] V0 (fun r _ => ∃ y : Int32, r = some (.int y) ∧ ((-2147483648) ≤ y.toInt) ∧ (y.toInt ≤ 2147483647))) r V ∧ jkc 5 [0, 23, 24] V0 V) := by
  refine jTot.of_J [some (.ref a0), some (.int x1), some (.int x2), none, none] moX7_join (Nat.le_of_ble_eq_true rfl) rfl ?_
  have hrx1 := j_rng x1
  have hrx2 := j_rng x2
  have he : jeff [.inr 5, .inl 17, .inl 18, .inl 19, .inl 20, .inl 15, .inl 16] V0 V0 := jeff.refl _ _
  have hkp : jkc 5 [0, 23, 24] V0 V0 := jkc.rf
  refine J_aload_n dX7_join_0 rfl ?_
  refine J_iload_n dX7_join_1 rfl ?_
  refine Jw_callV1 (q9 := (RX7, TX7, 34)) moX7_isWalk jw_ml_X7_130 jw_im_X7_isWalk jw_se_X7_isWalk ha0 rfl rfl dX7_join_2 (w_X7_isWalk (d - 1) _ a0 x1 (by omega) hW  ha0) (by omega) (Nat.zero_le _) (Nat.zero_le _) (Nat.le_of_ble_eq_true rfl) (fun r2 V2 h2 => ?_)
  obtain ⟨⟨y2, rfl, hl2, hh2, hI2_0⟩, hE2⟩ := h2
  have hE2 := hE2.symm
  subst hE2
  refine Jz_if_eq (tgt := 16) jEq.rf dX7_join_5 (by decide) (fun c5 => ?_) (fun c5 => ?_)
  · refine Jz_bipush (-2) dX7_join_16 (by decide) (fun y16 he16 => ?_)
    exact J_ret (r := some (.int _)) dX7_join_18 ⟨rfl, _, rfl, rfl⟩ (⟨⟨hW, he, ⟨_, rfl, (j_rng _).1, (j_rng _).2⟩⟩, hkp⟩)
  · have q5_0 := hI2_0.of (by omega)
    refine J_aload_n dX7_join_8 rfl ?_
    refine J_iload_n dX7_join_9 rfl ?_
    refine Jw_callV1 (q9 := (RX7, TX7, 34)) moX7_isWalk jw_ml_X7_130 jw_im_X7_isWalk jw_se_X7_isWalk ha0 rfl rfl dX7_join_10 (w_X7_isWalk (d - 1) _ a0 x2 (by omega) hW  ha0) (by omega) (Nat.zero_le _) (Nat.zero_le _) (Nat.le_of_ble_eq_true rfl) (fun r10 V10 h10 => ?_)
    obtain ⟨⟨y10, rfl, hl10, hh10, hI10_0⟩, hE10⟩ := h10
    have hE10 := hE10.symm
    subst hE10
    refine Jz_if_ne (tgt := 19) jEq.rf dX7_join_13 (by decide) (fun c13 => ?_) (fun c13 => ?_)
    · have q13_0 := hI10_0.of (by omega)
      refine J_aload_n dX7_join_19 rfl ?_
      obtain ⟨fs20, hO20, hK20⟩ := WT_obj hW id ha0
      obtain ⟨w20, hF20, b20, rfl, hb20⟩ := hK20.2 1 (.inr (some (.inl 14))) rfl
      refine J_get jf_X7_7 dX7_join_20 hO20 hF20 ?_
      refine J_iload_n dX7_join_23 rfl ?_
      obtain ⟨n24, f24, hA24, hN24, hM24, hv24⟩ := WT_arrI (r := (0, 3)) hW id rfl hb20
      obtain rfl := hM24 16 rfl
      clear hN24 hM24
      refine Jz_ialdr (r := (0, 3)) jEq.rf dX7_join_24 hA24 rfl hv24 (by omega) (by omega) (fun y24 hl24 hh24 => ?_)
      dsimp only at hl24 hh24
      refine J_aload_n dX7_join_25 rfl ?_
      refine J_get jf_X7_7 dX7_join_26 hO20 hF20 ?_
      refine J_iload_n dX7_join_29 rfl ?_
      refine Jz_ialdr (r := (0, 3)) jEq.rf dX7_join_30 hA24 rfl hv24 (by omega) (by omega) (fun y30 hl30 hh30 => ?_)
      dsimp only at hl30 hh30
      refine Jz_icmp_eq (tgt := 37) jEq.rf jEq.rf dX7_join_31 (by decide) (fun c31 => ?_) (fun c31 => ?_)
      · refine J_aload_n dX7_join_37 rfl ?_
        refine J_iload_n dX7_join_38 rfl ?_
        refine Jw_callV1 (q9 := (RX7, TX7, 34)) moX7_brings jw_ml_X7_137 jw_im_X7_brings jw_se_X7_brings ha0 rfl rfl dX7_join_39 (w_X7_brings (d - 1) _ a0 x1 (by omega) hW  ha0 (by omega) (by omega)) (by omega) (Nat.zero_le _) (Nat.zero_le _) (Nat.le_of_ble_eq_true rfl) (fun r39 V39 h39 => ?_)
        obtain ⟨h39, hX39_0, ⟨fv39_0, hfv39_0, hfp39_0⟩⟩ := h39
        obtain ⟨hW, hx39, hr39⟩ := h39
        have he := he.trans (hx39.sub (jsub_of rfl))
        have hkp := hkp.trans hX39_0
        have ha0 := ha0.mono hx39.1
        have hb20 := hb20.mono hx39.1
        obtain ⟨fs39a0, hOfs39a0, hRfs39a0⟩ := hx39.1.keep hO20
        have hKfs39a0 : jokO _ (jFs 5) fs39a0 := hW _ _ id hOfs39a0
        have hFfs39a0_1 := hRfs39a0 _ _ hF20
        have hA24 := hx39.2 _ _ hA24 (jnot_of rfl)
        cases hr39
        have hFv39_0 := hfv39_0.get hOfs39a0
        refine J_aload_n dX7_join_42 rfl ?_
        obtain ⟨w43, hF43, b43, rfl, hb43⟩ := hKfs39a0.2 2 (.inr (some (.inl 15))) rfl
        refine J_get jf_X7_13 dX7_join_43 hOfs39a0 hF43 ?_
        refine J_iload_n dX7_join_46 rfl ?_
        obtain ⟨n47, f47, hA47, hN47, hM47, hv47⟩ := WT_arrI (r := (0, 60)) hW id rfl hb43
        obtain rfl := hM47 16 rfl
        clear hN47 hM47
        refine Jz_ialdr (r := (0, 60)) jEq.rf dX7_join_47 hA47 rfl hv47 (by omega) (by omega) (fun y47 hl47 hh47 => ?_)
        dsimp only at hl47 hh47
        refine J_istore_n dX7_join_48 rfl (by decide) ?_
        refine Jz_iconst 0 dX7_join_49 (by decide) (fun y49 he49 => ?_)
        refine J_istore dX7_join_50 rfl (by decide) ?_
        have L52 : ∀ (N : Nat) (V : jH) (i4n52 : Int32) (gs52a0 : List Value) (g5n52 : Int32), WT V → jeff [.inr 5, .inl 17, .inl 18, .inl 19, .inl 20, .inl 15, .inl 16] V0 V → (jis V (.inr 5) a0) → (jis V (.inl 14) b20) → (jis V (.inl 15) b43) → (jkc 5 [0, 23, 24] V0 V) → (V a0 = some (.inr (5, gs52a0))) → (gs52a0[1]? = some (.ref b20)) → (gs52a0[5]? = some (.int g5n52)) → (gs52a0[2]? = some (.ref b43)) → (0 ≤ i4n52.toInt) → (g5n52.toInt ≤ 60 + i4n52.toInt) → (300 - i4n52.toInt).toNat < N → J tS mX7_join d 52 [some (.ref a0), some (.int x1), some (.int x2), some (.int y47), some (.int i4n52)] [] V 0 0 (fun r V => (jPost [.inr 5, .inl 17, .inl 18, .inl 19, .inl 20, .inl 15, .inl 16] V0 (fun r _ => ∃ y : Int32, r = some (.int y) ∧ ((-2147483648) ≤ y.toInt) ∧ (y.toInt ≤ 2147483647))) r V ∧ jkc 5 [0, 23, 24] V0 V) := by
          intro N
          induction N with
          | zero => intro V i4n52 gs52a0 g5n52 hW he ha0 hb20 hb43 hkp hOgs52a0 hFgs52a0_1 hFgs52a0_5 hFgs52a0_2 hi4 hrl hm; exact absurd hm (Nat.not_lt_zero _)
          | succ N ih =>
            intro V i4n52 gs52a0 g5n52 hW he ha0 hb20 hb43 hkp hOgs52a0 hFgs52a0_1 hFgs52a0_5 hFgs52a0_2 hi4 hrl hm
            have ih52 := ih
            have hri4 := j_rng i4n52
            have hKgs52a0 : jokO V (jFs 5) gs52a0 := hW _ _ id hOgs52a0
            have hrgg5n52 : 0 ≤ g5n52.toInt ∧ g5n52.toInt ≤ 120 := jok_rngI hKgs52a0 rfl hFgs52a0_5
            refine J_iload dX7_join_52 rfl ?_
            refine J_iload_n dX7_join_54 rfl ?_
            refine Jz_icmp_ge (tgt := 95) jEq.rf jEq.rf dX7_join_55 (by decide) (fun c55 => ?_) (fun c55 => ?_)
            · refine J_aload_n dX7_join_95 rfl ?_
              refine J_iload_n dX7_join_96 rfl ?_
              refine Jw_callV1 (q9 := (RX7, TX7, 34)) moX7_becomes jw_ml_X7_140 jw_im_X7_becomes jw_se_X7_becomes ha0 rfl rfl dX7_join_97 (w_X7_becomes (d - 1) _ a0 x1 (by omega) hW  ha0 (by omega) (by omega)) (by omega) (Nat.zero_le _) (Nat.zero_le _) (Nat.le_of_ble_eq_true rfl) (fun r97 V97 h97 => ?_)
              obtain ⟨hW, hx97, hr97⟩ := h97
              have he := he.trans (hx97.sub (jsub_of rfl))
              have hkp := hkp.trans (jkc.of hx97 (jnot_of rfl))
              have ha0 := ha0.mono hx97.1
              have hb20 := hb20.mono hx97.1
              have hb43 := hb43.mono hx97.1
              have hOgs52a0 := hx97.2 _ _ hOgs52a0 (jnot_of rfl)
              have hKgs52a0 := hKgs52a0.mono hx97.1
              obtain ⟨y97, rfl, hl97, hh97⟩ := hr97
              clear hl97 hh97
              exact J_ret (r := some (.int _)) dX7_join_100 ⟨rfl, _, rfl, rfl⟩ (⟨⟨hW, he, ⟨_, rfl, (j_rng _).1, (j_rng _).2⟩⟩, hkp⟩)
            · refine J_aload_n dX7_join_58 rfl ?_
              obtain ⟨w59, hF59, b59, rfl, hb59⟩ := hKgs52a0.2 4 (.inr (some (.inl 17))) rfl
              refine J_get jf_X7_19 dX7_join_59 hOgs52a0 hF59 ?_
              refine J_aload_n dX7_join_62 rfl ?_
              refine J_get jf_X7_109 dX7_join_63 hOgs52a0 hFgs52a0_5 ?_
              refine J_aload_n dX7_join_66 rfl ?_
              obtain ⟨w67, hF67, b67, rfl, hb67⟩ := hKgs52a0.2 3 (.inr (some (.inl 16))) rfl
              refine J_get jf_X7_16 dX7_join_67 hOgs52a0 hF67 ?_
              refine Jz_bipush 60 dX7_join_70 (by decide) (fun y70 he70 => ?_)
              refine J_iload_n dX7_join_72 rfl ?_
              refine Jz_imul he70 jEq.rf dX7_join_73 (by omega) (by omega) (fun y73 he73 => ?_)
              refine J_iload dX7_join_74 rfl ?_
              refine Jz_iadd he73 jEq.rf dX7_join_76 (by omega) (by omega) (fun y76 he76 => ?_)
              obtain ⟨n77, f77, hA77, hN77, hM77, hv77⟩ := WT_arrI (r := (-2147483648, 2147483647)) hW id rfl hb67
              obtain rfl := hM77 960 rfl
              clear hN77 hM77
              refine Jz_ialdw he76 dX7_join_77 hA77 rfl (by omega) (by omega) (fun y77 => ?_)
              obtain ⟨n78, f78, hA78, hN78, hM78, hv78⟩ := WT_arrI (r := (-2147483648, 2147483647)) hW id rfl hb59
              obtain rfl := hM78 120 rfl
              clear hN78 hM78
              refine Jz_iastw (r := ((-2147483648), 2147483647)) jEq.rf jEq.rf hW id dX7_join_78 hA78 rfl rfl (by omega) (by omega) (j_rng _).1 (j_rng _).2 (fun V78 hW hx78 => ?_)
              have he := he.trans (hx78.sub (jsub_of rfl))
              have hkp := hkp.trans (jkc.of hx78 (jnot_of rfl))
              have ha0 := ha0.mono hx78.1
              have hb20 := hb20.mono hx78.1
              have hb43 := hb43.mono hx78.1
              have hb59 := hb59.mono hx78.1
              have hb67 := hb67.mono hx78.1
              have hOgs52a0 := hx78.2 _ _ hOgs52a0 (jnot_of rfl)
              have hKgs52a0 := hKgs52a0.mono hx78.1
              have hA77 := hx78.2 _ _ hA77 (jnot_of rfl)
              refine J_aload_n dX7_join_79 rfl ?_
              refine J_dup dX7_join_80 rfl ?_
              refine J_get jf_X7_109 dX7_join_81 hOgs52a0 hFgs52a0_5 ?_
              refine Jz_iconst 1 dX7_join_84 (by decide) (fun y84 he84 => ?_)
              refine Jz_iadd jEq.rf he84 dX7_join_85 (by omega) (by omega) (fun y85 he85 => ?_)
              refine Jz_putI hOgs52a0 hW id rfl jf_X7_109 jt_X7_5 he85 dX7_join_86 (by omega) (by omega) (fun _ _ => ⟨rfl, rfl⟩) (fun V86 fs86 hW hx86 hO86 hS86 hT86 hB86 => ?_)
              have hK86 : jokO _ (jFs 5) fs86 := hW _ _ id hO86
              have hF86_1 := (hT86 1 (by decide)).trans hFgs52a0_1
              have hF86_2 := (hT86 2 (by decide)).trans hFgs52a0_2
              have hF86_4 := (hT86 4 (by decide)).trans hF59
              have hF86_3 := (hT86 3 (by decide)).trans hF67
              have he := he.trans (hx86.sub (jsub_of rfl))
              have hkp := hkp.trans (jkc.put hOgs52a0 hO86 hT86 hB86 (by decide))
              have ha0 := ha0.mono hx86.1
              have hb20 := hb20.mono hx86.1
              have hb43 := hb43.mono hx86.1
              have hb59 := hb59.mono hx86.1
              have hb67 := hb67.mono hx86.1
              have hA77 := hx86.2 _ _ hA77 (jnot_of rfl)
              refine Jz_iinc 1 dX7_join_89 rfl rfl (by decide) jEq.rf (by decide) (by omega) (by omega) (fun y89 he89 => ?_)
              refine J_goto (tgt := 52) dX7_join_92 (by decide) ?_
              refine J.mask [true, true, true, true, true] ?_
              exact ih52 _ y89 fs86 y85 hW he ha0 hb20 hb43 hkp hO86 hF86_1 hS86 hF86_2 (by (try simp only [he89.eq, he85.eq, true_and, and_true]) <;> omega) (by (try simp only [he89.eq, he85.eq, true_and, and_true]) <;> omega) (by (try simp only [he89.eq, he85.eq, true_and, and_true]) <;> omega)
        refine J.mask [true, true, true, true, true] ?_
        exact L52 _ _ y49 fs39a0 fv39_0 hW he ha0 hb20 hb43 hkp hOfs39a0 hFfs39a0_1 hFv39_0 hF43 (by (try simp only [he49.eq, true_and, and_true]) <;> omega) (by (try simp only [he49.eq, true_and, and_true]) <;> omega) (Nat.lt_succ_self _)
      · refine Jz_bipush (-3) dX7_join_34 (by decide) (fun y34 he34 => ?_)
        exact J_ret (r := some (.int _)) dX7_join_36 ⟨rfl, _, rfl, rfl⟩ (⟨⟨hW, he, ⟨_, rfl, (j_rng _).1, (j_rng _).2⟩⟩, hkp⟩)
    · refine Jz_bipush (-2) dX7_join_16 (by decide) (fun y16 he16 => ?_)
      exact J_ret (r := some (.int _)) dX7_join_18 ⟨rfl, _, rfl, rfl⟩ (⟨⟨hW, he, ⟨_, rfl, (j_rng _).1, (j_rng _).2⟩⟩, hkp⟩)
set_option maxRecDepth 100000 in
set_option maxHeartbeats 8000000 in
theorem w_X7_turnBack {tS : jTS} (d : Nat) (V0 : jH) (a0 : Nat) (x1 : Int32) (hd : 2 ≤ d) (hW : WT V0) (ha0 : jis V0 (.inr 5) a0) : jTot tS mX7_turnBack d [.ref a0, .int x1] V0 0 0 (fun r V => (jPost [.inr 5, .inl 17, .inl 18, .inl 19, .inl 20, .inl 15, .inl 16] V0 (fun r _ => ∃ y : Int32, r = some (.int y) ∧ ((-2147483648) ≤ y.toInt) ∧ (y.toInt ≤ 2147483647))) r V ∧ jkc 5 [0, 23, 24] V0 V) := by
  refine jTot.of_J [some (.ref a0), some (.int x1), none] moX7_turnBack (Nat.le_of_ble_eq_true rfl) rfl ?_
  have hrx1 := j_rng x1
  have he : jeff [.inr 5, .inl 17, .inl 18, .inl 19, .inl 20, .inl 15, .inl 16] V0 V0 := jeff.refl _ _
  have hkp : jkc 5 [0, 23, 24] V0 V0 := jkc.rf
  refine J_aload_n dX7_turnBack_0 rfl ?_
  refine J_iload_n dX7_turnBack_1 rfl ?_
  refine Jw_callV1 (q9 := (RX7, TX7, 34)) moX7_isWalk jw_ml_X7_130 jw_im_X7_isWalk jw_se_X7_isWalk ha0 rfl rfl dX7_turnBack_2 (w_X7_isWalk (d - 1) _ a0 x1 (by omega) hW  ha0) (by omega) (Nat.zero_le _) (Nat.zero_le _) (Nat.le_of_ble_eq_true rfl) (fun r2 V2 h2 => ?_)
  obtain ⟨⟨y2, rfl, hl2, hh2, hI2_0⟩, hE2⟩ := h2
  have hE2 := hE2.symm
  subst hE2
  refine Jz_if_ne (tgt := 11) jEq.rf dX7_turnBack_5 (by decide) (fun c5 => ?_) (fun c5 => ?_)
  · have q5_0 := hI2_0.of (by omega)
    refine J_aload_n dX7_turnBack_11 rfl ?_
    refine J_iload_n dX7_turnBack_12 rfl ?_
    refine Jw_callV1 (q9 := (RX7, TX7, 34)) moX7_brings jw_ml_X7_137 jw_im_X7_brings jw_se_X7_brings ha0 rfl rfl dX7_turnBack_13 (w_X7_brings (d - 1) _ a0 x1 (by omega) hW  ha0 (by omega) (by omega)) (by omega) (Nat.zero_le _) (Nat.zero_le _) (Nat.le_of_ble_eq_true rfl) (fun r13 V13 h13 => ?_)
    obtain ⟨h13, hX13_0, ⟨fv13_0, hfv13_0, hfp13_0⟩⟩ := h13
    obtain ⟨hW, hx13, hr13⟩ := h13
    have he := he.trans (hx13.sub (jsub_of rfl))
    have hkp := hkp.trans hX13_0
    have ha0 := ha0.mono hx13.1
    cases hr13
    obtain ⟨fs13o, hO13o, hK13o⟩ := WT_obj hW id ha0
    have hFv13_0 := hfv13_0.get hO13o
    refine J_aload_n dX7_turnBack_16 rfl ?_
    refine J_aload_n dX7_turnBack_17 rfl ?_
    obtain ⟨w18, hF18, b18, rfl, hb18⟩ := hK13o.2 1 (.inr (some (.inl 14))) rfl
    refine J_get jf_X7_7 dX7_turnBack_18 hO13o hF18 ?_
    refine J_iload_n dX7_turnBack_21 rfl ?_
    obtain ⟨n22, f22, hA22, hN22, hM22, hv22⟩ := WT_arrI (r := (0, 3)) hW id rfl hb18
    obtain rfl := hM22 16 rfl
    clear hN22 hM22
    refine Jz_ialdr (r := (0, 3)) jEq.rf dX7_turnBack_22 hA22 rfl hv22 (by omega) (by omega) (fun y22 hl22 hh22 => ?_)
    dsimp only at hl22 hh22
    refine Jw_callV1 (q9 := (RX7, TX7, 34)) moX7_goes jw_ml_X7_122 jw_im_X7_goes jw_se_X7_goes ha0 rfl rfl dX7_turnBack_23 (w_X7_goes (d - 1) _ a0 y22 (by omega) hW  ha0) (by omega) (Nat.zero_le _) (Nat.zero_le _) (Nat.le_of_ble_eq_true rfl) (fun r23 V23 h23 => ?_)
    obtain ⟨hW, hx23, hr23⟩ := h23
    have he := he.trans (hx23.sub (jsub_of rfl))
    have hkp := hkp.trans (jkc.of hx23 (jnot_of rfl))
    have ha0 := ha0.mono hx23.1
    have hb18 := hb18.mono hx23.1
    have hO13o := hx23.2 _ _ hO13o (jnot_of rfl)
    have hK13o := hK13o.mono hx23.1
    have hA22 := hx23.2 _ _ hA22 (jnot_of rfl)
    obtain ⟨y23, rfl, hl23, hh23⟩ := hr23
    refine J_pop dX7_turnBack_26 rfl ?_
    refine J_aload_n dX7_turnBack_27 rfl ?_
    refine J_get jf_X7_7 dX7_turnBack_28 hO13o hF18 ?_
    refine J_iload_n dX7_turnBack_31 rfl ?_
    refine Jz_ialdr (r := (0, 3)) jEq.rf dX7_turnBack_32 hA22 rfl hv22 (by omega) (by omega) (fun y32 hl32 hh32 => ?_)
    dsimp only at hl32 hh32
    refine Jz_iconst 2 dX7_turnBack_33 (by decide) (fun y33 he33 => ?_)
    refine Jz_icmp_ne (tgt := 65) jEq.rf he33 dX7_turnBack_34 (by decide) (fun c34 => ?_) (fun c34 => ?_)
    · refine Jz_iconst 0 dX7_turnBack_65 (by decide) (fun y65 he65 => ?_)
      refine J_istore_n dX7_turnBack_66 rfl (by decide) ?_
      have L67 : ∀ (N : Nat) (V : jH) (i2n67 : Int32), WT V → jeff [.inr 5, .inl 17, .inl 18, .inl 19, .inl 20, .inl 15, .inl 16] V0 V → (jis V (.inr 5) a0) → (jis V (.inl 14) b18) → (jkc 5 [0, 23, 24] V0 V) → (V a0 = some (.inr (5, fs13o))) → (jokO V (jFs 5) fs13o) → (0 ≤ i2n67.toInt) → (300 - i2n67.toInt).toNat < N → J tS mX7_turnBack d 67 [some (.ref a0), some (.int x1), some (.int i2n67)] [] V 0 0 (fun r V => (jPost [.inr 5, .inl 17, .inl 18, .inl 19, .inl 20, .inl 15, .inl 16] V0 (fun r _ => ∃ y : Int32, r = some (.int y) ∧ ((-2147483648) ≤ y.toInt) ∧ (y.toInt ≤ 2147483647))) r V ∧ jkc 5 [0, 23, 24] V0 V) := by
        intro N
        induction N with
        | zero => intro V i2n67 hW he ha0 hb18 hkp hO13o hK13o hi2 hm; exact absurd hm (Nat.not_lt_zero _)
        | succ N ih =>
          intro V i2n67 hW he ha0 hb18 hkp hO13o hK13o hi2 hm
          have ih67 := ih
          have hri2 := j_rng i2n67
          refine J_iload_n dX7_turnBack_67 rfl ?_
          refine J_aload_n dX7_turnBack_68 rfl ?_
          refine J_get jf_X7_109 dX7_turnBack_69 hO13o hFv13_0 ?_
          refine Jz_icmp_ge (tgt := 114) jEq.rf jEq.rf dX7_turnBack_72 (by decide) (fun c72 => ?_) (fun c72 => ?_)
          · refine J_aload_n dX7_turnBack_114 rfl ?_
            refine J_iload_n dX7_turnBack_115 rfl ?_
            refine Jw_callV1 (q9 := (RX7, TX7, 34)) moX7_keeps jw_ml_X7_126 jw_im_X7_keeps jw_se_X7_keeps ha0 rfl rfl dX7_turnBack_116 (w_X7_keeps (d - 1) _ a0 x1 fv13_0 (by omega) hW  ha0 ⟨_, hO13o, hFv13_0⟩ (by omega) (by omega) (by omega)) (by omega) (Nat.zero_le _) (Nat.zero_le _) (Nat.le_of_ble_eq_true rfl) (fun r116 V116 h116 => ?_)
            obtain ⟨hW, hx116, hr116⟩ := h116
            have he := he.trans (hx116.sub (jsub_of rfl))
            have hkp := hkp.trans (jkc.of hx116 (jnot_of rfl))
            have ha0 := ha0.mono hx116.1
            have hb18 := hb18.mono hx116.1
            have hO13o := hx116.2 _ _ hO13o (jnot_of rfl)
            have hK13o := hK13o.mono hx116.1
            cases hr116
            refine J_aload_n dX7_turnBack_119 rfl ?_
            refine J_get jf_X7_109 dX7_turnBack_120 hO13o hFv13_0 ?_
            exact J_ret (r := some (.int _)) dX7_turnBack_123 ⟨rfl, _, rfl, rfl⟩ (⟨⟨hW, he, ⟨_, rfl, (j_rng _).1, (j_rng _).2⟩⟩, hkp⟩)
          · refine J_aload_n dX7_turnBack_75 rfl ?_
            obtain ⟨w76, hF76, b76, rfl, hb76⟩ := hK13o.2 4 (.inr (some (.inl 17))) rfl
            refine J_get jf_X7_19 dX7_turnBack_76 hO13o hF76 ?_
            refine J_iload_n dX7_turnBack_79 rfl ?_
            refine J_aload_n dX7_turnBack_80 rfl ?_
            refine J_get jf_X7_7 dX7_turnBack_81 hO13o hF18 ?_
            refine J_iload_n dX7_turnBack_84 rfl ?_
            obtain ⟨n85, f85, hA85, hN85, hM85, hv85⟩ := WT_arrI (r := (0, 3)) hW id rfl hb18
            obtain rfl := hM85 16 rfl
            clear hN85 hM85
            refine Jz_ialdr (r := (0, 3)) jEq.rf dX7_turnBack_85 hA85 rfl hv85 (by omega) (by omega) (fun y85 hl85 hh85 => ?_)
            dsimp only at hl85 hh85
            refine J_aload_n dX7_turnBack_86 rfl ?_
            obtain ⟨w87, hF87, b87, rfl, hb87⟩ := hK13o.2 3 (.inr (some (.inl 16))) rfl
            refine J_get jf_X7_16 dX7_turnBack_87 hO13o hF87 ?_
            refine Jz_bipush 60 dX7_turnBack_90 (by decide) (fun y90 he90 => ?_)
            refine J_iload_n dX7_turnBack_92 rfl ?_
            refine Jz_imul he90 jEq.rf dX7_turnBack_93 (by omega) (by omega) (fun y93 he93 => ?_)
            refine J_aload_n dX7_turnBack_94 rfl ?_
            refine J_get jf_X7_109 dX7_turnBack_95 hO13o hFv13_0 ?_
            refine Jz_iadd he93 jEq.rf dX7_turnBack_98 (by omega) (by omega) (fun y98 he98 => ?_)
            refine Jz_iconst 1 dX7_turnBack_99 (by decide) (fun y99 he99 => ?_)
            refine Jz_isub he98 he99 dX7_turnBack_100 (by omega) (by omega) (fun y100 he100 => ?_)
            refine J_iload_n dX7_turnBack_101 rfl ?_
            refine Jz_isub he100 jEq.rf dX7_turnBack_102 (by omega) (by omega) (fun y102 he102 => ?_)
            obtain ⟨n103, f103, hA103, hN103, hM103, hv103⟩ := WT_arrI (r := (-2147483648, 2147483647)) hW id rfl hb87
            obtain rfl := hM103 960 rfl
            clear hN103 hM103
            refine Jz_ialdw he102 dX7_turnBack_103 hA103 rfl (by omega) (by omega) (fun y103 => ?_)
            refine J_callS2 moX7_opposite jw_ml_X7_149 jw_st_X7_opposite dX7_turnBack_104 (w_X7_opposite (d - 1) _ y85 y103 (by omega)   ) (by omega) (Nat.zero_le _) (Nat.zero_le _) (Nat.le_of_ble_eq_true rfl) (fun r104 V104 h104 => ?_)
            obtain ⟨⟨y104, rfl, hl104, hh104⟩, hE104⟩ := h104
            have hE104 := hE104.symm
            subst hE104
            clear hl104 hh104
            obtain ⟨n107, f107, hA107, hN107, hM107, hv107⟩ := WT_arrI (r := (-2147483648, 2147483647)) hW id rfl hb76
            obtain rfl := hM107 120 rfl
            clear hN107 hM107
            refine Jz_iastw (r := ((-2147483648), 2147483647)) jEq.rf jEq.rf hW id dX7_turnBack_107 hA107 rfl rfl (by omega) (by omega) (j_rng _).1 (j_rng _).2 (fun V107 hW hx107 => ?_)
            have he := he.trans (hx107.sub (jsub_of rfl))
            have hkp := hkp.trans (jkc.of hx107 (jnot_of rfl))
            have ha0 := ha0.mono hx107.1
            have hb18 := hb18.mono hx107.1
            have hb76 := hb76.mono hx107.1
            have hb87 := hb87.mono hx107.1
            have hO13o := hx107.2 _ _ hO13o (jnot_of rfl)
            have hK13o := hK13o.mono hx107.1
            have hA85 := hx107.2 _ _ hA85 (jnot_of rfl)
            have hA103 := hx107.2 _ _ hA103 (jnot_of rfl)
            refine Jz_iinc 1 dX7_turnBack_108 rfl rfl (by decide) jEq.rf (by decide) (by omega) (by omega) (fun y108 he108 => ?_)
            refine J_goto (tgt := 67) dX7_turnBack_111 (by decide) ?_
            refine J.mask [true, true, true] ?_
            exact ih67 _ y108 hW he ha0 hb18 hkp hO13o hK13o (by (try simp only [he108.eq, true_and, and_true]) <;> omega) (by (try simp only [he108.eq, true_and, and_true]) <;> omega)
      refine J.mask [true, true, true] ?_
      exact L67 _ _ y65 hW he ha0 hb18 hkp hO13o hK13o (by (try simp only [he65.eq, true_and, and_true]) <;> omega) (Nat.lt_succ_self _)
    · refine J_aload_n dX7_turnBack_37 rfl ?_
      obtain ⟨w38, hF38, b38, rfl, hb38⟩ := hK13o.2 6 (.inr (some (.inl 18))) rfl
      refine J_get jf_X7_22 dX7_turnBack_38 hO13o hF38 ?_
      refine J_aload_n dX7_turnBack_41 rfl ?_
      refine J_get jf_X7_109 dX7_turnBack_42 hO13o hFv13_0 ?_
      obtain ⟨n45, f45, hA45, hN45, hM45, hv45⟩ := WT_arrI (r := (-2147483648, 2147483647)) hW id rfl hb38
      obtain rfl := hM45 121 rfl
      clear hN45 hM45
      refine Jz_ialdw jEq.rf dX7_turnBack_45 hA45 rfl (by omega) (by omega) (fun y45 => ?_)
      refine J_aload_n dX7_turnBack_46 rfl ?_
      obtain ⟨w47, hF47, b47, rfl, hb47⟩ := hK13o.2 7 (.inr (some (.inl 19))) rfl
      refine J_get jf_X7_25 dX7_turnBack_47 hO13o hF47 ?_
      refine J_aload_n dX7_turnBack_50 rfl ?_
      refine J_get jf_X7_109 dX7_turnBack_51 hO13o hFv13_0 ?_
      obtain ⟨n54, f54, hA54, hN54, hM54, hv54⟩ := WT_arrI (r := (-2147483648, 2147483647)) hW id rfl hb47
      obtain rfl := hM54 121 rfl
      clear hN54 hM54
      refine Jz_ialdw jEq.rf dX7_turnBack_54 hA54 rfl (by omega) (by omega) (fun y54 => ?_)
      refine Jz_iaddw dX7_turnBack_55 (fun y55  => ?_)
      refine Jz_iconst 1 dX7_turnBack_56 (by decide) (fun y56 he56 => ?_)
      refine Jz_iandw dX7_turnBack_57 (fun y57  => ?_)
      refine Jz_iconst 1 dX7_turnBack_58 (by decide) (fun y58 he58 => ?_)
      refine Jz_icmp_ne (tgt := 65) jEq.rf he58 dX7_turnBack_59 (by decide) (fun c59 => ?_) (fun c59 => ?_)
      · refine Jz_iconst 0 dX7_turnBack_65 (by decide) (fun y65 he65 => ?_)
        refine J_istore_n dX7_turnBack_66 rfl (by decide) ?_
        have L67 : ∀ (N : Nat) (V : jH) (i2n67 : Int32), WT V → jeff [.inr 5, .inl 17, .inl 18, .inl 19, .inl 20, .inl 15, .inl 16] V0 V → (jis V (.inr 5) a0) → (jis V (.inl 14) b18) → (jis V (.inl 18) b38) → (jis V (.inl 19) b47) → (jkc 5 [0, 23, 24] V0 V) → (V a0 = some (.inr (5, fs13o))) → (jokO V (jFs 5) fs13o) → (0 ≤ i2n67.toInt) → (300 - i2n67.toInt).toNat < N → J tS mX7_turnBack d 67 [some (.ref a0), some (.int x1), some (.int i2n67)] [] V 0 0 (fun r V => (jPost [.inr 5, .inl 17, .inl 18, .inl 19, .inl 20, .inl 15, .inl 16] V0 (fun r _ => ∃ y : Int32, r = some (.int y) ∧ ((-2147483648) ≤ y.toInt) ∧ (y.toInt ≤ 2147483647))) r V ∧ jkc 5 [0, 23, 24] V0 V) := by
          intro N
          induction N with
          | zero => intro V i2n67 hW he ha0 hb18 hb38 hb47 hkp hO13o hK13o hi2 hm; exact absurd hm (Nat.not_lt_zero _)
          | succ N ih =>
            intro V i2n67 hW he ha0 hb18 hb38 hb47 hkp hO13o hK13o hi2 hm
            have ih67 := ih
            have hri2 := j_rng i2n67
            refine J_iload_n dX7_turnBack_67 rfl ?_
            refine J_aload_n dX7_turnBack_68 rfl ?_
            refine J_get jf_X7_109 dX7_turnBack_69 hO13o hFv13_0 ?_
            refine Jz_icmp_ge (tgt := 114) jEq.rf jEq.rf dX7_turnBack_72 (by decide) (fun c72 => ?_) (fun c72 => ?_)
            · refine J_aload_n dX7_turnBack_114 rfl ?_
              refine J_iload_n dX7_turnBack_115 rfl ?_
              refine Jw_callV1 (q9 := (RX7, TX7, 34)) moX7_keeps jw_ml_X7_126 jw_im_X7_keeps jw_se_X7_keeps ha0 rfl rfl dX7_turnBack_116 (w_X7_keeps (d - 1) _ a0 x1 fv13_0 (by omega) hW  ha0 ⟨_, hO13o, hFv13_0⟩ (by omega) (by omega) (by omega)) (by omega) (Nat.zero_le _) (Nat.zero_le _) (Nat.le_of_ble_eq_true rfl) (fun r116 V116 h116 => ?_)
              obtain ⟨hW, hx116, hr116⟩ := h116
              have he := he.trans (hx116.sub (jsub_of rfl))
              have hkp := hkp.trans (jkc.of hx116 (jnot_of rfl))
              have ha0 := ha0.mono hx116.1
              have hb18 := hb18.mono hx116.1
              have hb38 := hb38.mono hx116.1
              have hb47 := hb47.mono hx116.1
              have hO13o := hx116.2 _ _ hO13o (jnot_of rfl)
              have hK13o := hK13o.mono hx116.1
              cases hr116
              refine J_aload_n dX7_turnBack_119 rfl ?_
              refine J_get jf_X7_109 dX7_turnBack_120 hO13o hFv13_0 ?_
              exact J_ret (r := some (.int _)) dX7_turnBack_123 ⟨rfl, _, rfl, rfl⟩ (⟨⟨hW, he, ⟨_, rfl, (j_rng _).1, (j_rng _).2⟩⟩, hkp⟩)
            · refine J_aload_n dX7_turnBack_75 rfl ?_
              obtain ⟨w76, hF76, b76, rfl, hb76⟩ := hK13o.2 4 (.inr (some (.inl 17))) rfl
              refine J_get jf_X7_19 dX7_turnBack_76 hO13o hF76 ?_
              refine J_iload_n dX7_turnBack_79 rfl ?_
              refine J_aload_n dX7_turnBack_80 rfl ?_
              refine J_get jf_X7_7 dX7_turnBack_81 hO13o hF18 ?_
              refine J_iload_n dX7_turnBack_84 rfl ?_
              obtain ⟨n85, f85, hA85, hN85, hM85, hv85⟩ := WT_arrI (r := (0, 3)) hW id rfl hb18
              obtain rfl := hM85 16 rfl
              clear hN85 hM85
              refine Jz_ialdr (r := (0, 3)) jEq.rf dX7_turnBack_85 hA85 rfl hv85 (by omega) (by omega) (fun y85 hl85 hh85 => ?_)
              dsimp only at hl85 hh85
              refine J_aload_n dX7_turnBack_86 rfl ?_
              obtain ⟨w87, hF87, b87, rfl, hb87⟩ := hK13o.2 3 (.inr (some (.inl 16))) rfl
              refine J_get jf_X7_16 dX7_turnBack_87 hO13o hF87 ?_
              refine Jz_bipush 60 dX7_turnBack_90 (by decide) (fun y90 he90 => ?_)
              refine J_iload_n dX7_turnBack_92 rfl ?_
              refine Jz_imul he90 jEq.rf dX7_turnBack_93 (by omega) (by omega) (fun y93 he93 => ?_)
              refine J_aload_n dX7_turnBack_94 rfl ?_
              refine J_get jf_X7_109 dX7_turnBack_95 hO13o hFv13_0 ?_
              refine Jz_iadd he93 jEq.rf dX7_turnBack_98 (by omega) (by omega) (fun y98 he98 => ?_)
              refine Jz_iconst 1 dX7_turnBack_99 (by decide) (fun y99 he99 => ?_)
              refine Jz_isub he98 he99 dX7_turnBack_100 (by omega) (by omega) (fun y100 he100 => ?_)
              refine J_iload_n dX7_turnBack_101 rfl ?_
              refine Jz_isub he100 jEq.rf dX7_turnBack_102 (by omega) (by omega) (fun y102 he102 => ?_)
              obtain ⟨n103, f103, hA103, hN103, hM103, hv103⟩ := WT_arrI (r := (-2147483648, 2147483647)) hW id rfl hb87
              obtain rfl := hM103 960 rfl
              clear hN103 hM103
              refine Jz_ialdw he102 dX7_turnBack_103 hA103 rfl (by omega) (by omega) (fun y103 => ?_)
              refine J_callS2 moX7_opposite jw_ml_X7_149 jw_st_X7_opposite dX7_turnBack_104 (w_X7_opposite (d - 1) _ y85 y103 (by omega)   ) (by omega) (Nat.zero_le _) (Nat.zero_le _) (Nat.le_of_ble_eq_true rfl) (fun r104 V104 h104 => ?_)
              obtain ⟨⟨y104, rfl, hl104, hh104⟩, hE104⟩ := h104
              have hE104 := hE104.symm
              subst hE104
              clear hl104 hh104
              obtain ⟨n107, f107, hA107, hN107, hM107, hv107⟩ := WT_arrI (r := (-2147483648, 2147483647)) hW id rfl hb76
              obtain rfl := hM107 120 rfl
              clear hN107 hM107
              refine Jz_iastw (r := ((-2147483648), 2147483647)) jEq.rf jEq.rf hW id dX7_turnBack_107 hA107 rfl rfl (by omega) (by omega) (j_rng _).1 (j_rng _).2 (fun V107 hW hx107 => ?_)
              have he := he.trans (hx107.sub (jsub_of rfl))
              have hkp := hkp.trans (jkc.of hx107 (jnot_of rfl))
              have ha0 := ha0.mono hx107.1
              have hb18 := hb18.mono hx107.1
              have hb38 := hb38.mono hx107.1
              have hb47 := hb47.mono hx107.1
              have hb76 := hb76.mono hx107.1
              have hb87 := hb87.mono hx107.1
              have hO13o := hx107.2 _ _ hO13o (jnot_of rfl)
              have hK13o := hK13o.mono hx107.1
              have hA85 := hx107.2 _ _ hA85 (jnot_of rfl)
              have hA103 := hx107.2 _ _ hA103 (jnot_of rfl)
              refine Jz_iinc 1 dX7_turnBack_108 rfl rfl (by decide) jEq.rf (by decide) (by omega) (by omega) (fun y108 he108 => ?_)
              refine J_goto (tgt := 67) dX7_turnBack_111 (by decide) ?_
              refine J.mask [true, true, true] ?_
              exact ih67 _ y108 hW he ha0 hb18 hb38 hb47 hkp hO13o hK13o (by (try simp only [he108.eq, true_and, and_true]) <;> omega) (by (try simp only [he108.eq, true_and, and_true]) <;> omega)
        refine J.mask [true, true, true] ?_
        exact L67 _ _ y65 hW he ha0 hb18 hb38 hb47 hkp hO13o hK13o (by (try simp only [he65.eq, true_and, and_true]) <;> omega) (Nat.lt_succ_self _)
      · refine Jz_bipush (-3) dX7_turnBack_62 (by decide) (fun y62 he62 => ?_)
        exact J_ret (r := some (.int _)) dX7_turnBack_64 ⟨rfl, _, rfl, rfl⟩ (⟨⟨hW, he, ⟨_, rfl, (j_rng _).1, (j_rng _).2⟩⟩, hkp⟩)
  · refine Jz_bipush (-2) dX7_turnBack_8 (by decide) (fun y8 he8 => ?_)
    exact J_ret (r := some (.int _)) dX7_turnBack_10 ⟨rfl, _, rfl, rfl⟩ (⟨⟨hW, he, ⟨_, rfl, (j_rng _).1, (j_rng _).2⟩⟩, hkp⟩)
set_option maxRecDepth 100000 in
set_option maxHeartbeats 8000000 in
theorem w_X7_stepAt {tS : jTS} (d : Nat) (V0 : jH) (a0 : Nat) (x1 : Int32) (x2 : Int32) (hd : 2 ≤ d) (hW : WT V0) (ha0 : jis V0 (.inr 5) a0) : jTot tS mX7_stepAt d [.ref a0, .int x1, .int x2] V0 0 0 (fun r V => (fun r _ => ∃ y : Int32, r = some (.int y) ∧ ((-2147483648) ≤ y.toInt) ∧ (y.toInt ≤ 2147483647)) r V ∧ V = V0) := by
  refine jTot.of_J [some (.ref a0), some (.int x1), some (.int x2)] moX7_stepAt (Nat.le_of_ble_eq_true rfl) rfl ?_
  have hrx1 := j_rng x1
  have hrx2 := j_rng x2
  have he : jeff [] V0 V0 := jeff.refl _ _
  refine J_aload_n dX7_stepAt_0 rfl ?_
  refine J_iload_n dX7_stepAt_1 rfl ?_
  refine Jw_callV1 (q9 := (RX7, TX7, 34)) moX7_isWalk jw_ml_X7_130 jw_im_X7_isWalk jw_se_X7_isWalk ha0 rfl rfl dX7_stepAt_2 (w_X7_isWalk (d - 1) _ a0 x1 (by omega) hW  ha0) (by omega) (Nat.zero_le _) (Nat.zero_le _) (Nat.le_of_ble_eq_true rfl) (fun r2 V2 h2 => ?_)
  obtain ⟨⟨y2, rfl, hl2, hh2, hI2_0⟩, hE2⟩ := h2
  have hE2 := hE2.symm
  subst hE2
  refine Jz_if_ne (tgt := 13) jEq.rf dX7_stepAt_5 (by decide) (fun c5 => ?_) (fun c5 => ?_)
  · have q5_0 := hI2_0.of (by omega)
    refine J_iload_n dX7_stepAt_13 rfl ?_
    refine Jz_iconst 0 dX7_stepAt_14 (by decide) (fun y14 he14 => ?_)
    refine J_aload_n dX7_stepAt_15 rfl ?_
    obtain ⟨fs16, hO16, hK16⟩ := WT_obj hW id ha0
    obtain ⟨w16, hF16, b16, rfl, hb16⟩ := hK16.2 2 (.inr (some (.inl 15))) rfl
    refine J_get jf_X7_13 dX7_stepAt_16 hO16 hF16 ?_
    refine J_iload_n dX7_stepAt_19 rfl ?_
    obtain ⟨n20, f20, hA20, hN20, hM20, hv20⟩ := WT_arrI (r := (0, 60)) hW id rfl hb16
    obtain rfl := hM20 16 rfl
    clear hN20 hM20
    refine Jz_ialdr (r := (0, 60)) jEq.rf dX7_stepAt_20 hA20 rfl hv20 (by omega) (by omega) (fun y20 hl20 hh20 => ?_)
    dsimp only at hl20 hh20
    refine Jz_iconst 1 dX7_stepAt_21 (by decide) (fun y21 he21 => ?_)
    refine Jz_isub jEq.rf he21 dX7_stepAt_22 (by omega) (by omega) (fun y22 he22 => ?_)
    refine J_callS3 moX7_in jw_ml_X7_105 jw_st_X7_in dX7_stepAt_23 (w_X7_in (d - 1) _ x2 y14 y22 (by omega)   ) (by omega) (Nat.zero_le _) (Nat.zero_le _) (Nat.le_of_ble_eq_true rfl) (fun r23 V23 h23 => ?_)
    obtain ⟨⟨y23, rfl, hl23, hh23, hI23_0, hI23_1⟩, hE23⟩ := h23
    have hE23 := hE23.symm
    subst hE23
    refine Jz_if_eq (tgt := 43) jEq.rf dX7_stepAt_26 (by decide) (fun c26 => ?_) (fun c26 => ?_)
    · have q26_1 := hI23_1.of (by omega)
      try simp only [he14.eq, he22.eq] at q26_1
      refine Jz_iconst (-1) dX7_stepAt_43 (by decide) (fun y43 he43 => ?_)
      exact J_ret (r := some (.int _)) dX7_stepAt_44 ⟨rfl, _, rfl, rfl⟩ (⟨⟨_, rfl, (j_rng _).1, (j_rng _).2⟩, rfl⟩)
    · have q26_0 := hI23_0.of (by omega)
      try simp only [he14.eq, he22.eq] at q26_0
      refine J_aload_n dX7_stepAt_29 rfl ?_
      obtain ⟨w30, hF30, b30, rfl, hb30⟩ := hK16.2 3 (.inr (some (.inl 16))) rfl
      refine J_get jf_X7_16 dX7_stepAt_30 hO16 hF30 ?_
      refine Jz_bipush 60 dX7_stepAt_33 (by decide) (fun y33 he33 => ?_)
      refine J_iload_n dX7_stepAt_35 rfl ?_
      refine Jz_imul he33 jEq.rf dX7_stepAt_36 (by omega) (by omega) (fun y36 he36 => ?_)
      refine J_iload_n dX7_stepAt_37 rfl ?_
      refine Jz_iadd he36 jEq.rf dX7_stepAt_38 (by omega) (by omega) (fun y38 he38 => ?_)
      obtain ⟨n39, f39, hA39, hN39, hM39, hv39⟩ := WT_arrI (r := (-2147483648, 2147483647)) hW id rfl hb30
      obtain rfl := hM39 960 rfl
      clear hN39 hM39
      refine Jz_ialdw he38 dX7_stepAt_39 hA39 rfl (by omega) (by omega) (fun y39 => ?_)
      refine J_goto (tgt := 44) dX7_stepAt_40 (by decide) ?_
      exact J_ret (r := some (.int _)) dX7_stepAt_44 ⟨rfl, _, rfl, rfl⟩ (⟨⟨_, rfl, (j_rng _).1, (j_rng _).2⟩, rfl⟩)
  · refine Jz_bipush (-2) dX7_stepAt_8 (by decide) (fun y8 he8 => ?_)
    refine J_goto (tgt := 44) dX7_stepAt_10 (by decide) ?_
    exact J_ret (r := some (.int _)) dX7_stepAt_44 ⟨rfl, _, rfl, rfl⟩ (⟨⟨_, rfl, (j_rng _).1, (j_rng _).2⟩, rfl⟩)
set_option maxRecDepth 100000 in
set_option maxHeartbeats 8000000 in
theorem w_X7_place {tS : jTS} (d : Nat) (V0 : jH) (a0 : Nat) (x1 : Int32) (x2 : Int32) (x3 : Int32) (hd : 2 ≤ d) (hW : WT V0) (ha0 : jis V0 (.inr 5) a0) : jTot tS mX7_place d [.ref a0, .int x1, .int x2, .int x3] V0 0 0 (fun r V => (jPost [.inr 5, .inl 17, .inl 18, .inl 19, .inl 20] V0 (fun r _ => ∃ y : Int32, r = some (.int y) ∧ ((-2147483648) ≤ y.toInt) ∧ (y.toInt ≤ 2147483647))) r V ∧ jkc 5 [0, 23, 24] V0 V) := by
  refine jTot.of_J [some (.ref a0), some (.int x1), some (.int x2), some (.int x3)] moX7_place (Nat.le_of_ble_eq_true rfl) rfl ?_
  have hrx1 := j_rng x1
  have hrx2 := j_rng x2
  have hrx3 := j_rng x3
  have he : jeff [.inr 5, .inl 17, .inl 18, .inl 19, .inl 20] V0 V0 := jeff.refl _ _
  have hkp : jkc 5 [0, 23, 24] V0 V0 := jkc.rf
  refine J_aload_n dX7_place_0 rfl ?_
  refine J_iload_n dX7_place_1 rfl ?_
  refine Jw_callV1 (q9 := (RX7, TX7, 34)) moX7_isWalk jw_ml_X7_130 jw_im_X7_isWalk jw_se_X7_isWalk ha0 rfl rfl dX7_place_2 (w_X7_isWalk (d - 1) _ a0 x1 (by omega) hW  ha0) (by omega) (Nat.zero_le _) (Nat.zero_le _) (Nat.le_of_ble_eq_true rfl) (fun r2 V2 h2 => ?_)
  obtain ⟨⟨y2, rfl, hl2, hh2, hI2_0⟩, hE2⟩ := h2
  have hE2 := hE2.symm
  subst hE2
  refine Jz_if_eq (tgt := 31) jEq.rf dX7_place_5 (by decide) (fun c5 => ?_) (fun c5 => ?_)
  · refine Jz_sipush (-1000) dX7_place_31 (by decide) (fun y31 he31 => ?_)
    exact J_ret (r := some (.int _)) dX7_place_34 ⟨rfl, _, rfl, rfl⟩ (⟨⟨hW, he, ⟨_, rfl, (j_rng _).1, (j_rng _).2⟩⟩, hkp⟩)
  · have q5_0 := hI2_0.of (by omega)
    refine J_iload_n dX7_place_8 rfl ?_
    refine Jz_iconst 0 dX7_place_9 (by decide) (fun y9 he9 => ?_)
    refine J_aload_n dX7_place_10 rfl ?_
    obtain ⟨fs11, hO11, hK11⟩ := WT_obj hW id ha0
    obtain ⟨w11, hF11, b11, rfl, hb11⟩ := hK11.2 2 (.inr (some (.inl 15))) rfl
    refine J_get jf_X7_13 dX7_place_11 hO11 hF11 ?_
    refine J_iload_n dX7_place_14 rfl ?_
    obtain ⟨n15, f15, hA15, hN15, hM15, hv15⟩ := WT_arrI (r := (0, 60)) hW id rfl hb11
    obtain rfl := hM15 16 rfl
    clear hN15 hM15
    refine Jz_ialdr (r := (0, 60)) jEq.rf dX7_place_15 hA15 rfl hv15 (by omega) (by omega) (fun y15 hl15 hh15 => ?_)
    dsimp only at hl15 hh15
    refine J_callS3 moX7_in jw_ml_X7_105 jw_st_X7_in dX7_place_16 (w_X7_in (d - 1) _ x2 y9 y15 (by omega)   ) (by omega) (Nat.zero_le _) (Nat.zero_le _) (Nat.le_of_ble_eq_true rfl) (fun r16 V16 h16 => ?_)
    obtain ⟨⟨y16, rfl, hl16, hh16, hI16_0, hI16_1⟩, hE16⟩ := h16
    have hE16 := hE16.symm
    subst hE16
    refine Jz_if_eq (tgt := 31) jEq.rf dX7_place_19 (by decide) (fun c19 => ?_) (fun c19 => ?_)
    · have q19_1 := hI16_1.of (by omega)
      try simp only [he9.eq] at q19_1
      refine Jz_sipush (-1000) dX7_place_31 (by decide) (fun y31 he31 => ?_)
      exact J_ret (r := some (.int _)) dX7_place_34 ⟨rfl, _, rfl, rfl⟩ (⟨⟨hW, he, ⟨_, rfl, (j_rng _).1, (j_rng _).2⟩⟩, hkp⟩)
    · have q19_0 := hI16_0.of (by omega)
      try simp only [he9.eq] at q19_0
      refine J_iload_n dX7_place_22 rfl ?_
      refine Jz_iconst 0 dX7_place_23 (by decide) (fun y23 he23 => ?_)
      refine Jz_iconst 2 dX7_place_24 (by decide) (fun y24 he24 => ?_)
      refine J_callS3 moX7_in jw_ml_X7_105 jw_st_X7_in dX7_place_25 (w_X7_in (d - 1) _ x3 y23 y24 (by omega)   ) (by omega) (Nat.zero_le _) (Nat.zero_le _) (Nat.le_of_ble_eq_true rfl) (fun r25 V25 h25 => ?_)
      obtain ⟨⟨y25, rfl, hl25, hh25, hI25_0, hI25_1⟩, hE25⟩ := h25
      have hE25 := hE25.symm
      subst hE25
      refine Jz_if_ne (tgt := 35) jEq.rf dX7_place_28 (by decide) (fun c28 => ?_) (fun c28 => ?_)
      · have q28_0 := hI25_0.of (by omega)
        try simp only [he23.eq, he24.eq] at q28_0
        refine J_aload_n dX7_place_35 rfl ?_
        refine J_iload_n dX7_place_36 rfl ?_
        refine Jw_callV1 (q9 := (RX7, TX7, 34)) moX7_brings jw_ml_X7_137 jw_im_X7_brings jw_se_X7_brings ha0 rfl rfl dX7_place_37 (w_X7_brings (d - 1) _ a0 x1 (by omega) hW  ha0 (by omega) (by omega)) (by omega) (Nat.zero_le _) (Nat.zero_le _) (Nat.le_of_ble_eq_true rfl) (fun r37 V37 h37 => ?_)
        obtain ⟨h37, hX37_0, ⟨fv37_0, hfv37_0, hfp37_0⟩⟩ := h37
        obtain ⟨hW, hx37, hr37⟩ := h37
        have he := he.trans (hx37.sub (jsub_of rfl))
        have hkp := hkp.trans hX37_0
        have ha0 := ha0.mono hx37.1
        have hb11 := hb11.mono hx37.1
        obtain ⟨fs37a0, hOfs37a0, hRfs37a0⟩ := hx37.1.keep hO11
        have hKfs37a0 : jokO _ (jFs 5) fs37a0 := hW _ _ id hOfs37a0
        have hFfs37a0_2 := hRfs37a0 _ _ hF11
        have hA15 := hx37.2 _ _ hA15 (jnot_of rfl)
        cases hr37
        have hFv37_0 := hfv37_0.get hOfs37a0
        refine J_aload_n dX7_place_40 rfl ?_
        refine J_aload_n dX7_place_41 rfl ?_
        obtain ⟨w42, hF42, b42, rfl, hb42⟩ := hKfs37a0.2 1 (.inr (some (.inl 14))) rfl
        refine J_get jf_X7_7 dX7_place_42 hOfs37a0 hF42 ?_
        refine J_iload_n dX7_place_45 rfl ?_
        obtain ⟨n46, f46, hA46, hN46, hM46, hv46⟩ := WT_arrI (r := (0, 3)) hW id rfl hb42
        obtain rfl := hM46 16 rfl
        clear hN46 hM46
        refine Jz_ialdr (r := (0, 3)) jEq.rf dX7_place_46 hA46 rfl hv46 (by omega) (by omega) (fun y46 hl46 hh46 => ?_)
        dsimp only at hl46 hh46
        refine Jw_callV1 (q9 := (RX7, TX7, 34)) moX7_goes jw_ml_X7_122 jw_im_X7_goes jw_se_X7_goes ha0 rfl rfl dX7_place_47 (w_X7_goes (d - 1) _ a0 y46 (by omega) hW  ha0) (by omega) (Nat.zero_le _) (Nat.zero_le _) (Nat.le_of_ble_eq_true rfl) (fun r47 V47 h47 => ?_)
        obtain ⟨hW, hx47, hr47⟩ := h47
        have he := he.trans (hx47.sub (jsub_of rfl))
        have hkp := hkp.trans (jkc.of hx47 (jnot_of rfl))
        have ha0 := ha0.mono hx47.1
        have hb11 := hb11.mono hx47.1
        have hb42 := hb42.mono hx47.1
        have hOfs37a0 := hx47.2 _ _ hOfs37a0 (jnot_of rfl)
        have hKfs37a0 := hKfs37a0.mono hx47.1
        have hA15 := hx47.2 _ _ hA15 (jnot_of rfl)
        have hA46 := hx47.2 _ _ hA46 (jnot_of rfl)
        obtain ⟨y47, rfl, hl47, hh47⟩ := hr47
        refine J_pop dX7_place_50 rfl ?_
        refine J_iload_n dX7_place_51 rfl ?_
        refine Jz_if_ne (tgt := 64) jEq.rf dX7_place_52 (by decide) (fun c52 => ?_) (fun c52 => ?_)
        · refine J_iload_n dX7_place_64 rfl ?_
          refine Jz_iconst 1 dX7_place_65 (by decide) (fun y65 he65 => ?_)
          refine Jz_icmp_ne (tgt := 78) jEq.rf he65 dX7_place_66 (by decide) (fun c66 => ?_) (fun c66 => ?_)
          · refine J_aload_n dX7_place_78 rfl ?_
            obtain ⟨w79, hF79, b79, rfl, hb79⟩ := hKfs37a0.2 8 (.inr (some (.inl 20))) rfl
            refine J_get jf_X7_28 dX7_place_79 hOfs37a0 hF79 ?_
            refine J_iload_n dX7_place_82 rfl ?_
            obtain ⟨n83, f83, hA83, hN83, hM83, hv83⟩ := WT_arrI (r := (-2147483648, 2147483647)) hW id rfl hb79
            obtain rfl := hM83 121 rfl
            clear hN83 hM83
            refine Jz_ialdw jEq.rf dX7_place_83 hA83 rfl (by omega) (by omega) (fun y83 => ?_)
            exact J_ret (r := some (.int _)) dX7_place_84 ⟨rfl, _, rfl, rfl⟩ (⟨⟨hW, he, ⟨_, rfl, (j_rng _).1, (j_rng _).2⟩⟩, hkp⟩)
          · refine J_aload_n dX7_place_69 rfl ?_
            obtain ⟨w70, hF70, b70, rfl, hb70⟩ := hKfs37a0.2 7 (.inr (some (.inl 19))) rfl
            refine J_get jf_X7_25 dX7_place_70 hOfs37a0 hF70 ?_
            refine J_iload_n dX7_place_73 rfl ?_
            obtain ⟨n74, f74, hA74, hN74, hM74, hv74⟩ := WT_arrI (r := (-2147483648, 2147483647)) hW id rfl hb70
            obtain rfl := hM74 121 rfl
            clear hN74 hM74
            refine Jz_ialdw jEq.rf dX7_place_74 hA74 rfl (by omega) (by omega) (fun y74 => ?_)
            refine J_goto (tgt := 84) dX7_place_75 (by decide) ?_
            exact J_ret (r := some (.int _)) dX7_place_84 ⟨rfl, _, rfl, rfl⟩ (⟨⟨hW, he, ⟨_, rfl, (j_rng _).1, (j_rng _).2⟩⟩, hkp⟩)
        · refine J_aload_n dX7_place_55 rfl ?_
          obtain ⟨w56, hF56, b56, rfl, hb56⟩ := hKfs37a0.2 6 (.inr (some (.inl 18))) rfl
          refine J_get jf_X7_22 dX7_place_56 hOfs37a0 hF56 ?_
          refine J_iload_n dX7_place_59 rfl ?_
          obtain ⟨n60, f60, hA60, hN60, hM60, hv60⟩ := WT_arrI (r := (-2147483648, 2147483647)) hW id rfl hb56
          obtain rfl := hM60 121 rfl
          clear hN60 hM60
          refine Jz_ialdw jEq.rf dX7_place_60 hA60 rfl (by omega) (by omega) (fun y60 => ?_)
          refine J_goto (tgt := 84) dX7_place_61 (by decide) ?_
          exact J_ret (r := some (.int _)) dX7_place_84 ⟨rfl, _, rfl, rfl⟩ (⟨⟨hW, he, ⟨_, rfl, (j_rng _).1, (j_rng _).2⟩⟩, hkp⟩)
      · have q28_1 := hI25_1.of (by omega)
        try simp only [he23.eq, he24.eq] at q28_1
        refine Jz_sipush (-1000) dX7_place_31 (by decide) (fun y31 he31 => ?_)
        exact J_ret (r := some (.int _)) dX7_place_34 ⟨rfl, _, rfl, rfl⟩ (⟨⟨hW, he, ⟨_, rfl, (j_rng _).1, (j_rng _).2⟩⟩, hkp⟩)
set_option maxRecDepth 100000 in
set_option maxHeartbeats 8000000 in
theorem w_X7_isRing {tS : jTS} (d : Nat) (V0 : jH) (a0 : Nat) (x1 : Int32) (hd : 1 ≤ d) (hW : WT V0) (ha0 : jis V0 (.inr 5) a0) : jTot tS mX7_isRing d [.ref a0, .int x1] V0 0 0 (fun r V => (fun r _ => ∃ y : Int32, r = some (.int y) ∧ (0 ≤ y.toInt) ∧ (y.toInt ≤ 1)) r V ∧ V = V0) := by
  refine jTot.of_J [some (.ref a0), some (.int x1), none, none, none, none] moX7_isRing (Nat.le_of_ble_eq_true rfl) rfl ?_
  have hrx1 := j_rng x1
  have he : jeff [] V0 V0 := jeff.refl _ _
  refine J_aload_n dX7_isRing_0 rfl ?_
  obtain ⟨fs1, hO1, hK1⟩ := WT_obj hW id ha0
  obtain ⟨w1, hF1, b1, rfl, hb1⟩ := hK1.2 6 (.inr (some (.inl 18))) rfl
  refine J_get jf_X7_22 dX7_isRing_1 hO1 hF1 ?_
  refine J_aload_n dX7_isRing_4 rfl ?_
  obtain ⟨w5, hF5, y5, rfl, hl5, hh5⟩ := hK1.2 5 (.inl (0, 120)) rfl
  dsimp only at hl5 hh5
  refine J_get jf_X7_109 dX7_isRing_5 hO1 hF5 ?_
  obtain ⟨n8, f8, hA8, hN8, hM8, hv8⟩ := WT_arrI (r := (-2147483648, 2147483647)) hW id rfl hb1
  obtain rfl := hM8 121 rfl
  clear hN8 hM8
  refine Jz_ialdw jEq.rf dX7_isRing_8 hA8 rfl (by omega) (by omega) (fun y8 => ?_)
  refine J_istore_n dX7_isRing_9 rfl (by decide) ?_
  refine J_aload_n dX7_isRing_10 rfl ?_
  obtain ⟨w11, hF11, b11, rfl, hb11⟩ := hK1.2 7 (.inr (some (.inl 19))) rfl
  refine J_get jf_X7_25 dX7_isRing_11 hO1 hF11 ?_
  refine J_aload_n dX7_isRing_14 rfl ?_
  refine J_get jf_X7_109 dX7_isRing_15 hO1 hF5 ?_
  obtain ⟨n18, f18, hA18, hN18, hM18, hv18⟩ := WT_arrI (r := (-2147483648, 2147483647)) hW id rfl hb11
  obtain rfl := hM18 121 rfl
  clear hN18 hM18
  refine Jz_ialdw jEq.rf dX7_isRing_18 hA18 rfl (by omega) (by omega) (fun y18 => ?_)
  refine J_istore_n dX7_isRing_19 rfl (by decide) ?_
  refine Jz_iconst 0 dX7_isRing_20 (by decide) (fun y20 he20 => ?_)
  refine J_istore dX7_isRing_21 rfl (by decide) ?_
  refine Jz_iconst 0 dX7_isRing_23 (by decide) (fun y23 he23 => ?_)
  refine J_istore dX7_isRing_24 rfl (by decide) ?_
  have L26 : ∀ (N : Nat) (i4n26 : Int32) (i5n26 : Int32), (0 ≤ i5n26.toInt) → (0 ≤ i4n26.toInt ∧ i4n26.toInt ≤ 1) → (300 - i5n26.toInt).toNat < N → J tS mX7_isRing d 26 [some (.ref a0), some (.int x1), some (.int y8), some (.int y18), some (.int i4n26), some (.int i5n26)] [] V0 0 0 (fun r V => (fun r _ => ∃ y : Int32, r = some (.int y) ∧ (0 ≤ y.toInt) ∧ (y.toInt ≤ 1)) r V ∧ V = V0) := by
    intro N
    induction N with
    | zero => intro i4n26 i5n26  hi5 hb4 hm; exact absurd hm (Nat.not_lt_zero _)
    | succ N ih =>
      intro i4n26 i5n26  hi5 hb4 hm
      have ih26 := ih
      have hri5 := j_rng i5n26
      refine J_iload dX7_isRing_26 rfl ?_
      refine J_iload_n dX7_isRing_28 rfl ?_
      refine J_callS1 moX7_directions jw_ml_X7_133 jw_st_X7_directions dX7_isRing_29 (w_X7_directions (d - 1) _ x1 (by omega)   ) (by omega) (Nat.zero_le _) (Nat.zero_le _) (Nat.le_of_ble_eq_true rfl) (fun r29 V29 h29 => ?_)
      obtain ⟨⟨y29, rfl, hl29, hh29, hP29_0⟩, hE29⟩ := h29
      have hE29 := hE29.symm
      subst hE29
      have hz29 : jEq y29.toInt (jdir (x1.toInt)) := hP29_0
      simp only [hP29_0] at hl29 hh29
      clear hP29_0
      refine Jz_icmp_ge (tgt := 105) jEq.rf hz29 dX7_isRing_32 (by decide) (fun c32 => ?_) (fun c32 => ?_)
      · refine J_iload dX7_isRing_105 rfl ?_
        exact J_ret (r := some (.int _)) dX7_isRing_107 ⟨rfl, _, rfl, (nar_b (by omega) (by omega))⟩ (⟨⟨_, rfl, (by omega), (by omega)⟩, rfl⟩)
      · refine J_aload_n dX7_isRing_35 rfl ?_
        refine J_get jf_X7_109 dX7_isRing_36 hO1 hF5 ?_
        refine Jz_iconst 1 dX7_isRing_39 (by decide) (fun y39 he39 => ?_)
        refine Jz_icmp_le (tgt := 105) jEq.rf he39 dX7_isRing_40 (by decide) (fun c40 => ?_) (fun c40 => ?_)
        · refine J_iload dX7_isRing_105 rfl ?_
          exact J_ret (r := some (.int _)) dX7_isRing_107 ⟨rfl, _, rfl, (nar_b (by omega) (by omega))⟩ (⟨⟨_, rfl, (by omega), (by omega)⟩, rfl⟩)
        · refine J_iload dX7_isRing_43 rfl ?_
          refine Jz_if_ne (tgt := 92) jEq.rf dX7_isRing_45 (by decide) (fun c45 => ?_) (fun c45 => ?_)
          · refine Jz_iconst 1 dX7_isRing_92 (by decide) (fun y92 he92 => ?_)
            refine J_goto (tgt := 97) dX7_isRing_93 (by decide) ?_
            refine J_istore dX7_isRing_97 rfl (by decide) ?_
            refine Jz_iinc 1 dX7_isRing_99 rfl rfl (by decide) jEq.rf (by decide) (by omega) (by omega) (fun y99 he99 => ?_)
            refine J_goto (tgt := 26) dX7_isRing_102 (by decide) ?_
            refine J.mask [true, true, true, true, true, true] ?_
            exact ih26  y92 y99  (by (try simp only [he92.eq, he99.eq, true_and, and_true]) <;> omega) (by (try simp only [he92.eq, he99.eq, true_and, and_true]) <;> omega) (by (try simp only [he92.eq, he99.eq, true_and, and_true]) <;> omega)
          · refine J_iload_n dX7_isRing_48 rfl ?_
            refine J_iload_n dX7_isRing_49 rfl ?_
            refine J_iload dX7_isRing_50 rfl ?_
            refine J_callS2 moX7_stepX jw_ml_X7_112 jw_st_X7_stepX dX7_isRing_52 (w_X7_stepX (d - 1) _ x1 i5n26 (by omega)   ) (by omega) (Nat.zero_le _) (Nat.zero_le _) (Nat.le_of_ble_eq_true rfl) (fun r52 V52 h52 => ?_)
            obtain ⟨⟨y52, rfl, hl52, hh52⟩, hE52⟩ := h52
            have hE52 := hE52.symm
            subst hE52
            refine Jz_iaddw dX7_isRing_55 (fun y55  => ?_)
            refine Jz_if_ne (tgt := 96) jEq.rf dX7_isRing_56 (by decide) (fun c56 => ?_) (fun c56 => ?_)
            · refine Jz_iconst 0 dX7_isRing_96 (by decide) (fun y96 he96 => ?_)
              refine J_istore dX7_isRing_97 rfl (by decide) ?_
              refine Jz_iinc 1 dX7_isRing_99 rfl rfl (by decide) jEq.rf (by decide) (by omega) (by omega) (fun y99 he99 => ?_)
              refine J_goto (tgt := 26) dX7_isRing_102 (by decide) ?_
              refine J.mask [true, true, true, true, true, true] ?_
              exact ih26  y96 y99  (by (try simp only [he96.eq, he99.eq, true_and, and_true]) <;> omega) (by (try simp only [he96.eq, he99.eq, true_and, and_true]) <;> omega) (by (try simp only [he96.eq, he99.eq, true_and, and_true]) <;> omega)
            · refine J_iload_n dX7_isRing_59 rfl ?_
              refine J_iload_n dX7_isRing_60 rfl ?_
              refine J_iload dX7_isRing_61 rfl ?_
              refine J_iload_n dX7_isRing_63 rfl ?_
              refine J_iload_n dX7_isRing_64 rfl ?_
              refine Jz_iaddw dX7_isRing_65 (fun y65  => ?_)
              refine J_callS3 moX7_stepY jw_ml_X7_115 jw_st_X7_stepY dX7_isRing_66 (w_X7_stepY (d - 1) _ x1 i5n26 y65 (by omega)   ) (by omega) (Nat.zero_le _) (Nat.zero_le _) (Nat.le_of_ble_eq_true rfl) (fun r66 V66 h66 => ?_)
              obtain ⟨⟨y66, rfl, hl66, hh66⟩, hE66⟩ := h66
              have hE66 := hE66.symm
              subst hE66
              refine Jz_iaddw dX7_isRing_69 (fun y69  => ?_)
              refine Jz_if_ne (tgt := 96) jEq.rf dX7_isRing_70 (by decide) (fun c70 => ?_) (fun c70 => ?_)
              · refine Jz_iconst 0 dX7_isRing_96 (by decide) (fun y96 he96 => ?_)
                refine J_istore dX7_isRing_97 rfl (by decide) ?_
                refine Jz_iinc 1 dX7_isRing_99 rfl rfl (by decide) jEq.rf (by decide) (by omega) (by omega) (fun y99 he99 => ?_)
                refine J_goto (tgt := 26) dX7_isRing_102 (by decide) ?_
                refine J.mask [true, true, true, true, true, true] ?_
                exact ih26  y96 y99  (by (try simp only [he96.eq, he99.eq, true_and, and_true]) <;> omega) (by (try simp only [he96.eq, he99.eq, true_and, and_true]) <;> omega) (by (try simp only [he96.eq, he99.eq, true_and, and_true]) <;> omega)
              · refine J_aload_n dX7_isRing_73 rfl ?_
                obtain ⟨w74, hF74, b74, rfl, hb74⟩ := hK1.2 8 (.inr (some (.inl 20))) rfl
                refine J_get jf_X7_28 dX7_isRing_74 hO1 hF74 ?_
                refine J_aload_n dX7_isRing_77 rfl ?_
                refine J_get jf_X7_109 dX7_isRing_78 hO1 hF5 ?_
                obtain ⟨n81, f81, hA81, hN81, hM81, hv81⟩ := WT_arrI (r := (-2147483648, 2147483647)) hW id rfl hb74
                obtain rfl := hM81 121 rfl
                clear hN81 hM81
                refine Jz_ialdw jEq.rf dX7_isRing_81 hA81 rfl (by omega) (by omega) (fun y81 => ?_)
                refine J_iload_n dX7_isRing_82 rfl ?_
                refine J_iload dX7_isRing_83 rfl ?_
                refine J_callS2 moX7_stepZ jw_ml_X7_119 jw_st_X7_stepZ dX7_isRing_85 (w_X7_stepZ (d - 1) _ x1 i5n26 (by omega)   ) (by omega) (Nat.zero_le _) (Nat.zero_le _) (Nat.le_of_ble_eq_true rfl) (fun r85 V85 h85 => ?_)
                obtain ⟨⟨y85, rfl, hl85, hh85⟩, hE85⟩ := h85
                have hE85 := hE85.symm
                subst hE85
                refine Jz_iaddw dX7_isRing_88 (fun y88  => ?_)
                refine Jz_if_ne (tgt := 96) jEq.rf dX7_isRing_89 (by decide) (fun c89 => ?_) (fun c89 => ?_)
                · refine Jz_iconst 0 dX7_isRing_96 (by decide) (fun y96 he96 => ?_)
                  refine J_istore dX7_isRing_97 rfl (by decide) ?_
                  refine Jz_iinc 1 dX7_isRing_99 rfl rfl (by decide) jEq.rf (by decide) (by omega) (by omega) (fun y99 he99 => ?_)
                  refine J_goto (tgt := 26) dX7_isRing_102 (by decide) ?_
                  refine J.mask [true, true, true, true, true, true] ?_
                  exact ih26  y96 y99  (by (try simp only [he96.eq, he99.eq, true_and, and_true]) <;> omega) (by (try simp only [he96.eq, he99.eq, true_and, and_true]) <;> omega) (by (try simp only [he96.eq, he99.eq, true_and, and_true]) <;> omega)
                · refine Jz_iconst 1 dX7_isRing_92 (by decide) (fun y92 he92 => ?_)
                  refine J_goto (tgt := 97) dX7_isRing_93 (by decide) ?_
                  refine J_istore dX7_isRing_97 rfl (by decide) ?_
                  refine Jz_iinc 1 dX7_isRing_99 rfl rfl (by decide) jEq.rf (by decide) (by omega) (by omega) (fun y99 he99 => ?_)
                  refine J_goto (tgt := 26) dX7_isRing_102 (by decide) ?_
                  refine J.mask [true, true, true, true, true, true] ?_
                  exact ih26  y92 y99  (by (try simp only [he92.eq, he99.eq, true_and, and_true]) <;> omega) (by (try simp only [he92.eq, he99.eq, true_and, and_true]) <;> omega) (by (try simp only [he92.eq, he99.eq, true_and, and_true]) <;> omega)
  refine J.mask [true, true, true, true, true, true] ?_
  exact L26 _  y20 y23    (by (try simp only [he20.eq, he23.eq, true_and, and_true]) <;> omega) (by (try simp only [he20.eq, he23.eq, true_and, and_true]) <;> omega) (Nat.lt_succ_self _)
set_option maxRecDepth 100000 in
set_option maxHeartbeats 8000000 in
theorem w_X7_area {tS : jTS} (d : Nat) (V0 : jH) (a0 : Nat) (hd : 0 ≤ d) (hW : WT V0) (ha0 : jis V0 (.inr 5) a0) : jTot tS mX7_area d [.ref a0] V0 0 0 (fun r V => (fun r _ => ∃ y : Int32, r = some (.int y) ∧ ((-2147483648) ≤ y.toInt) ∧ (y.toInt ≤ 2147483647)) r V ∧ V = V0) := by
  refine jTot.of_J [some (.ref a0), none, none, none] moX7_area (Nat.le_of_ble_eq_true rfl) rfl ?_
  have he : jeff [] V0 V0 := jeff.refl _ _
  refine Jz_iconst 0 dX7_area_0 (by decide) (fun y0 he0 => ?_)
  refine J_istore_n dX7_area_1 rfl (by decide) ?_
  refine Jz_iconst 0 dX7_area_2 (by decide) (fun y2 he2 => ?_)
  refine J_istore_n dX7_area_3 rfl (by decide) ?_
  have L4 : ∀ (N : Nat) (i1n4 : Int32) (i2n4 : Int32), (0 ≤ i2n4.toInt) → (300 - i2n4.toInt).toNat < N → J tS mX7_area d 4 [some (.ref a0), some (.int i1n4), some (.int i2n4), none] [] V0 0 0 (fun r V => (fun r _ => ∃ y : Int32, r = some (.int y) ∧ ((-2147483648) ≤ y.toInt) ∧ (y.toInt ≤ 2147483647)) r V ∧ V = V0) := by
    intro N
    induction N with
    | zero => intro i1n4 i2n4  hi2 hm; exact absurd hm (Nat.not_lt_zero _)
    | succ N ih =>
      intro i1n4 i2n4  hi2 hm
      have ih4 := ih
      have hri2 := j_rng i2n4
      refine J_iload_n dX7_area_4 rfl ?_
      refine J_aload_n dX7_area_5 rfl ?_
      obtain ⟨fs6, hO6, hK6⟩ := WT_obj hW id ha0
      obtain ⟨w6, hF6, y6, rfl, hl6, hh6⟩ := hK6.2 5 (.inl (0, 120)) rfl
      dsimp only at hl6 hh6
      refine J_get jf_X7_109 dX7_area_6 hO6 hF6 ?_
      refine Jz_icmp_gt (tgt := 64) jEq.rf jEq.rf dX7_area_9 (by decide) (fun c9 => ?_) (fun c9 => ?_)
      · refine J_iload_n dX7_area_64 rfl ?_
        refine Jz_if_ge (tgt := 73) jEq.rf dX7_area_65 (by decide) (fun c65 => ?_) (fun c65 => ?_)
        · refine J_iload_n dX7_area_73 rfl ?_
          exact J_ret (r := some (.int _)) dX7_area_74 ⟨rfl, _, rfl, rfl⟩ (⟨⟨_, rfl, (j_rng _).1, (j_rng _).2⟩, rfl⟩)
        · refine J_iload_n dX7_area_68 rfl ?_
          refine Jz_inegw dX7_area_69 (fun y69  => ?_)
          refine J_goto (tgt := 74) dX7_area_70 (by decide) ?_
          exact J_ret (r := some (.int _)) dX7_area_74 ⟨rfl, _, rfl, rfl⟩ (⟨⟨_, rfl, (j_rng _).1, (j_rng _).2⟩, rfl⟩)
      · refine J_iload_n dX7_area_12 rfl ?_
        refine J_aload_n dX7_area_13 rfl ?_
        refine J_get jf_X7_109 dX7_area_14 hO6 hF6 ?_
        refine Jz_icmp_ne (tgt := 24) jEq.rf jEq.rf dX7_area_17 (by decide) (fun c17 => ?_) (fun c17 => ?_)
        · refine J_iload_n dX7_area_24 rfl ?_
          refine Jz_iconst 1 dX7_area_25 (by decide) (fun y25 he25 => ?_)
          refine Jz_iadd jEq.rf he25 dX7_area_26 (by omega) (by omega) (fun y26 he26 => ?_)
          refine J_istore_n dX7_area_27 rfl (by decide) ?_
          refine J_iload_n dX7_area_28 rfl ?_
          refine J_aload_n dX7_area_29 rfl ?_
          obtain ⟨w30, hF30, b30, rfl, hb30⟩ := hK6.2 6 (.inr (some (.inl 18))) rfl
          refine J_get jf_X7_22 dX7_area_30 hO6 hF30 ?_
          refine J_iload_n dX7_area_33 rfl ?_
          obtain ⟨n34, f34, hA34, hN34, hM34, hv34⟩ := WT_arrI (r := (-2147483648, 2147483647)) hW id rfl hb30
          obtain rfl := hM34 121 rfl
          clear hN34 hM34
          refine Jz_ialdw jEq.rf dX7_area_34 hA34 rfl (by omega) (by omega) (fun y34 => ?_)
          refine J_aload_n dX7_area_35 rfl ?_
          obtain ⟨w36, hF36, b36, rfl, hb36⟩ := hK6.2 7 (.inr (some (.inl 19))) rfl
          refine J_get jf_X7_25 dX7_area_36 hO6 hF36 ?_
          refine J_iload_n dX7_area_39 rfl ?_
          obtain ⟨n40, f40, hA40, hN40, hM40, hv40⟩ := WT_arrI (r := (-2147483648, 2147483647)) hW id rfl hb36
          obtain rfl := hM40 121 rfl
          clear hN40 hM40
          refine Jz_ialdw he26 dX7_area_40 hA40 rfl (by omega) (by omega) (fun y40 => ?_)
          refine Jz_imulw dX7_area_41 (fun y41  => ?_)
          refine J_aload_n dX7_area_42 rfl ?_
          refine J_get jf_X7_22 dX7_area_43 hO6 hF30 ?_
          refine J_iload_n dX7_area_46 rfl ?_
          refine Jz_ialdw he26 dX7_area_47 hA34 rfl (by omega) (by omega) (fun y47 => ?_)
          refine J_aload_n dX7_area_48 rfl ?_
          refine J_get jf_X7_25 dX7_area_49 hO6 hF36 ?_
          refine J_iload_n dX7_area_52 rfl ?_
          refine Jz_ialdw jEq.rf dX7_area_53 hA40 rfl (by omega) (by omega) (fun y53 => ?_)
          refine Jz_imulw dX7_area_54 (fun y54  => ?_)
          refine Jz_isubw dX7_area_55 (fun y55  => ?_)
          refine Jz_iaddw dX7_area_56 (fun y56  => ?_)
          refine J_istore_n dX7_area_57 rfl (by decide) ?_
          refine Jz_iinc 1 dX7_area_58 rfl rfl (by decide) jEq.rf (by decide) (by omega) (by omega) (fun y58 he58 => ?_)
          refine J_goto (tgt := 4) dX7_area_61 (by decide) ?_
          refine J.mask [true, true, true, false] ?_
          exact ih4  y56 y58  (by (try simp only [he58.eq, true_and, and_true]) <;> omega) (by (try simp only [he58.eq, true_and, and_true]) <;> omega)
        · refine Jz_iconst 0 dX7_area_20 (by decide) (fun y20 he20 => ?_)
          refine J_goto (tgt := 27) dX7_area_21 (by decide) ?_
          refine J_istore_n dX7_area_27 rfl (by decide) ?_
          refine J_iload_n dX7_area_28 rfl ?_
          refine J_aload_n dX7_area_29 rfl ?_
          obtain ⟨w30, hF30, b30, rfl, hb30⟩ := hK6.2 6 (.inr (some (.inl 18))) rfl
          refine J_get jf_X7_22 dX7_area_30 hO6 hF30 ?_
          refine J_iload_n dX7_area_33 rfl ?_
          obtain ⟨n34, f34, hA34, hN34, hM34, hv34⟩ := WT_arrI (r := (-2147483648, 2147483647)) hW id rfl hb30
          obtain rfl := hM34 121 rfl
          clear hN34 hM34
          refine Jz_ialdw jEq.rf dX7_area_34 hA34 rfl (by omega) (by omega) (fun y34 => ?_)
          refine J_aload_n dX7_area_35 rfl ?_
          obtain ⟨w36, hF36, b36, rfl, hb36⟩ := hK6.2 7 (.inr (some (.inl 19))) rfl
          refine J_get jf_X7_25 dX7_area_36 hO6 hF36 ?_
          refine J_iload_n dX7_area_39 rfl ?_
          obtain ⟨n40, f40, hA40, hN40, hM40, hv40⟩ := WT_arrI (r := (-2147483648, 2147483647)) hW id rfl hb36
          obtain rfl := hM40 121 rfl
          clear hN40 hM40
          refine Jz_ialdw he20 dX7_area_40 hA40 rfl (by omega) (by omega) (fun y40 => ?_)
          refine Jz_imulw dX7_area_41 (fun y41  => ?_)
          refine J_aload_n dX7_area_42 rfl ?_
          refine J_get jf_X7_22 dX7_area_43 hO6 hF30 ?_
          refine J_iload_n dX7_area_46 rfl ?_
          refine Jz_ialdw he20 dX7_area_47 hA34 rfl (by omega) (by omega) (fun y47 => ?_)
          refine J_aload_n dX7_area_48 rfl ?_
          refine J_get jf_X7_25 dX7_area_49 hO6 hF36 ?_
          refine J_iload_n dX7_area_52 rfl ?_
          refine Jz_ialdw jEq.rf dX7_area_53 hA40 rfl (by omega) (by omega) (fun y53 => ?_)
          refine Jz_imulw dX7_area_54 (fun y54  => ?_)
          refine Jz_isubw dX7_area_55 (fun y55  => ?_)
          refine Jz_iaddw dX7_area_56 (fun y56  => ?_)
          refine J_istore_n dX7_area_57 rfl (by decide) ?_
          refine Jz_iinc 1 dX7_area_58 rfl rfl (by decide) jEq.rf (by decide) (by omega) (by omega) (fun y58 he58 => ?_)
          refine J_goto (tgt := 4) dX7_area_61 (by decide) ?_
          refine J.mask [true, true, true, false] ?_
          exact ih4  y56 y58  (by (try simp only [he58.eq, true_and, and_true]) <;> omega) (by (try simp only [he58.eq, true_and, and_true]) <;> omega)
  refine J.mask [true, true, true, false] ?_
  exact L4 _  y0 y2    (by (try simp only [he0.eq, he2.eq, true_and, and_true]) <;> omega) (Nat.lt_succ_self _)
set_option maxRecDepth 100000 in
set_option maxHeartbeats 8000000 in
theorem w_X7_isBridge {tS : jTS} (d : Nat) (V0 : jH) (a0 : Nat) (hd : 0 ≤ d) (hW : WT V0) (ha0 : jis V0 (.inr 5) a0) : jTot tS mX7_isBridge d [.ref a0] V0 0 0 (fun r V => (fun r _ => ∃ y : Int32, r = some (.int y) ∧ (0 ≤ y.toInt) ∧ (y.toInt ≤ 1)) r V ∧ V = V0) := by
  refine jTot.of_J [some (.ref a0), none, none] moX7_isBridge (Nat.le_of_ble_eq_true rfl) rfl ?_
  have he : jeff [] V0 V0 := jeff.refl _ _
  refine Jz_iconst 1 dX7_isBridge_0 (by decide) (fun y0 he0 => ?_)
  refine J_istore_n dX7_isBridge_1 rfl (by decide) ?_
  refine Jz_iconst 1 dX7_isBridge_2 (by decide) (fun y2 he2 => ?_)
  refine J_istore_n dX7_isBridge_3 rfl (by decide) ?_
  have L4 : ∀ (N : Nat) (i1n4 : Int32) (i2n4 : Int32), (1 ≤ i2n4.toInt) → (0 ≤ i1n4.toInt ∧ i1n4.toInt ≤ 1) → (300 - i2n4.toInt).toNat < N → J tS mX7_isBridge d 4 [some (.ref a0), some (.int i1n4), some (.int i2n4)] [] V0 0 0 (fun r V => (fun r _ => ∃ y : Int32, r = some (.int y) ∧ (0 ≤ y.toInt) ∧ (y.toInt ≤ 1)) r V ∧ V = V0) := by
    intro N
    induction N with
    | zero => intro i1n4 i2n4  hi2 hb1 hm; exact absurd hm (Nat.not_lt_zero _)
    | succ N ih =>
      intro i1n4 i2n4  hi2 hb1 hm
      have ih4 := ih
      have hri2 := j_rng i2n4
      refine J_iload_n dX7_isBridge_4 rfl ?_
      refine J_aload_n dX7_isBridge_5 rfl ?_
      obtain ⟨fs6, hO6, hK6⟩ := WT_obj hW id ha0
      obtain ⟨w6, hF6, y6, rfl, hl6, hh6⟩ := hK6.2 5 (.inl (0, 120)) rfl
      dsimp only at hl6 hh6
      refine J_get jf_X7_109 dX7_isBridge_6 hO6 hF6 ?_
      refine Jz_icmp_gt (tgt := 55) jEq.rf jEq.rf dX7_isBridge_9 (by decide) (fun c9 => ?_) (fun c9 => ?_)
      · refine J_iload_n dX7_isBridge_55 rfl ?_
        exact J_ret (r := some (.int _)) dX7_isBridge_56 ⟨rfl, _, rfl, (nar_b (by omega) (by omega))⟩ (⟨⟨_, rfl, (by omega), (by omega)⟩, rfl⟩)
      · refine J_iload_n dX7_isBridge_12 rfl ?_
        refine Jz_if_eq (tgt := 47) jEq.rf dX7_isBridge_13 (by decide) (fun c13 => ?_) (fun c13 => ?_)
        · refine Jz_iconst 0 dX7_isBridge_47 (by decide) (fun y47 he47 => ?_)
          refine J_istore_n dX7_isBridge_48 rfl (by decide) ?_
          refine Jz_iinc 1 dX7_isBridge_49 rfl rfl (by decide) jEq.rf (by decide) (by omega) (by omega) (fun y49 he49 => ?_)
          refine J_goto (tgt := 4) dX7_isBridge_52 (by decide) ?_
          refine J.mask [true, true, true] ?_
          exact ih4  y47 y49  (by (try simp only [he47.eq, he49.eq, true_and, and_true]) <;> omega) (by (try simp only [he47.eq, he49.eq, true_and, and_true]) <;> omega) (by (try simp only [he47.eq, he49.eq, true_and, and_true]) <;> omega)
        · refine J_aload_n dX7_isBridge_16 rfl ?_
          obtain ⟨w17, hF17, b17, rfl, hb17⟩ := hK6.2 6 (.inr (some (.inl 18))) rfl
          refine J_get jf_X7_22 dX7_isBridge_17 hO6 hF17 ?_
          refine J_iload_n dX7_isBridge_20 rfl ?_
          obtain ⟨n21, f21, hA21, hN21, hM21, hv21⟩ := WT_arrI (r := (-2147483648, 2147483647)) hW id rfl hb17
          obtain rfl := hM21 121 rfl
          clear hN21 hM21
          refine Jz_ialdw jEq.rf dX7_isBridge_21 hA21 rfl (by omega) (by omega) (fun y21 => ?_)
          refine Jz_if_le (tgt := 47) jEq.rf dX7_isBridge_22 (by decide) (fun c22 => ?_) (fun c22 => ?_)
          · refine Jz_iconst 0 dX7_isBridge_47 (by decide) (fun y47 he47 => ?_)
            refine J_istore_n dX7_isBridge_48 rfl (by decide) ?_
            refine Jz_iinc 1 dX7_isBridge_49 rfl rfl (by decide) jEq.rf (by decide) (by omega) (by omega) (fun y49 he49 => ?_)
            refine J_goto (tgt := 4) dX7_isBridge_52 (by decide) ?_
            refine J.mask [true, true, true] ?_
            exact ih4  y47 y49  (by (try simp only [he47.eq, he49.eq, true_and, and_true]) <;> omega) (by (try simp only [he47.eq, he49.eq, true_and, and_true]) <;> omega) (by (try simp only [he47.eq, he49.eq, true_and, and_true]) <;> omega)
          · refine J_aload_n dX7_isBridge_25 rfl ?_
            refine J_get jf_X7_22 dX7_isBridge_26 hO6 hF17 ?_
            refine J_iload_n dX7_isBridge_29 rfl ?_
            refine Jz_ialdw jEq.rf dX7_isBridge_30 hA21 rfl (by omega) (by omega) (fun y30 => ?_)
            refine J_aload_n dX7_isBridge_31 rfl ?_
            refine J_get jf_X7_22 dX7_isBridge_32 hO6 hF17 ?_
            refine J_aload_n dX7_isBridge_35 rfl ?_
            refine J_get jf_X7_109 dX7_isBridge_36 hO6 hF6 ?_
            refine Jz_ialdw jEq.rf dX7_isBridge_39 hA21 rfl (by omega) (by omega) (fun y39 => ?_)
            refine Jz_icmp_gt (tgt := 47) jEq.rf jEq.rf dX7_isBridge_40 (by decide) (fun c40 => ?_) (fun c40 => ?_)
            · refine Jz_iconst 0 dX7_isBridge_47 (by decide) (fun y47 he47 => ?_)
              refine J_istore_n dX7_isBridge_48 rfl (by decide) ?_
              refine Jz_iinc 1 dX7_isBridge_49 rfl rfl (by decide) jEq.rf (by decide) (by omega) (by omega) (fun y49 he49 => ?_)
              refine J_goto (tgt := 4) dX7_isBridge_52 (by decide) ?_
              refine J.mask [true, true, true] ?_
              exact ih4  y47 y49  (by (try simp only [he47.eq, he49.eq, true_and, and_true]) <;> omega) (by (try simp only [he47.eq, he49.eq, true_and, and_true]) <;> omega) (by (try simp only [he47.eq, he49.eq, true_and, and_true]) <;> omega)
            · refine Jz_iconst 1 dX7_isBridge_43 (by decide) (fun y43 he43 => ?_)
              refine J_goto (tgt := 48) dX7_isBridge_44 (by decide) ?_
              refine J_istore_n dX7_isBridge_48 rfl (by decide) ?_
              refine Jz_iinc 1 dX7_isBridge_49 rfl rfl (by decide) jEq.rf (by decide) (by omega) (by omega) (fun y49 he49 => ?_)
              refine J_goto (tgt := 4) dX7_isBridge_52 (by decide) ?_
              refine J.mask [true, true, true] ?_
              exact ih4  y43 y49  (by (try simp only [he43.eq, he49.eq, true_and, and_true]) <;> omega) (by (try simp only [he43.eq, he49.eq, true_and, and_true]) <;> omega) (by (try simp only [he43.eq, he49.eq, true_and, and_true]) <;> omega)
  refine J.mask [true, true, true] ?_
  exact L4 _  y0 y2    (by (try simp only [he0.eq, he2.eq, true_and, and_true]) <;> omega) (by (try simp only [he0.eq, he2.eq, true_and, and_true]) <;> omega) (Nat.lt_succ_self _)
set_option maxRecDepth 100000 in
set_option maxHeartbeats 8000000 in
theorem w_X7_leadingOn {tS : jTS} (d : Nat) (V0 : jH) (a0 : Nat) (x1 : Int32) (hd : 1 ≤ d) (hW : WT V0) (ha0 : jis V0 (.inr 5) a0) : jTot tS mX7_leadingOn d [.ref a0, .int x1] V0 0 0 (fun r V => (fun r _ => ∃ y : Int32, r = some (.int y) ∧ ((-2147483648) ≤ y.toInt) ∧ (y.toInt ≤ 2147483647)) r V ∧ V = V0) := by
  refine jTot.of_J [some (.ref a0), some (.int x1), none, none, none, none, none, none] moX7_leadingOn (Nat.le_of_ble_eq_true rfl) rfl ?_
  have hrx1 := j_rng x1
  have he : jeff [] V0 V0 := jeff.refl _ _
  refine Jz_iconst 0 dX7_leadingOn_0 (by decide) (fun y0 he0 => ?_)
  refine J_istore_n dX7_leadingOn_1 rfl (by decide) ?_
  refine J_aload_n dX7_leadingOn_2 rfl ?_
  obtain ⟨fs3, hO3, hK3⟩ := WT_obj hW id ha0
  obtain ⟨w3, hF3, b3, rfl, hb3⟩ := hK3.2 6 (.inr (some (.inl 18))) rfl
  refine J_get jf_X7_22 dX7_leadingOn_3 hO3 hF3 ?_
  refine J_aload_n dX7_leadingOn_6 rfl ?_
  obtain ⟨w7, hF7, y7, rfl, hl7, hh7⟩ := hK3.2 5 (.inl (0, 120)) rfl
  dsimp only at hl7 hh7
  refine J_get jf_X7_109 dX7_leadingOn_7 hO3 hF7 ?_
  obtain ⟨n10, f10, hA10, hN10, hM10, hv10⟩ := WT_arrI (r := (-2147483648, 2147483647)) hW id rfl hb3
  obtain rfl := hM10 121 rfl
  clear hN10 hM10
  refine Jz_ialdw jEq.rf dX7_leadingOn_10 hA10 rfl (by omega) (by omega) (fun y10 => ?_)
  refine J_istore_n dX7_leadingOn_11 rfl (by decide) ?_
  refine J_aload_n dX7_leadingOn_12 rfl ?_
  obtain ⟨w13, hF13, b13, rfl, hb13⟩ := hK3.2 7 (.inr (some (.inl 19))) rfl
  refine J_get jf_X7_25 dX7_leadingOn_13 hO3 hF13 ?_
  refine J_aload_n dX7_leadingOn_16 rfl ?_
  refine J_get jf_X7_109 dX7_leadingOn_17 hO3 hF7 ?_
  obtain ⟨n20, f20, hA20, hN20, hM20, hv20⟩ := WT_arrI (r := (-2147483648, 2147483647)) hW id rfl hb13
  obtain rfl := hM20 121 rfl
  clear hN20 hM20
  refine Jz_ialdw jEq.rf dX7_leadingOn_20 hA20 rfl (by omega) (by omega) (fun y20 => ?_)
  refine J_istore dX7_leadingOn_21 rfl (by decide) ?_
  refine Jz_iconst 0 dX7_leadingOn_23 (by decide) (fun y23 he23 => ?_)
  refine J_istore dX7_leadingOn_24 rfl (by decide) ?_
  have L26 : ∀ (N : Nat) (i2n26 : Int32) (i5n26 : Int32), (0 ≤ i5n26.toInt) → (300 - i5n26.toInt).toNat < N → J tS mX7_leadingOn d 26 [some (.ref a0), some (.int x1), some (.int i2n26), some (.int y10), some (.int y20), some (.int i5n26), none, none] [] V0 0 0 (fun r V => (fun r _ => ∃ y : Int32, r = some (.int y) ∧ ((-2147483648) ≤ y.toInt) ∧ (y.toInt ≤ 2147483647)) r V ∧ V = V0) := by
    intro N
    induction N with
    | zero => intro i2n26 i5n26  hi5 hm; exact absurd hm (Nat.not_lt_zero _)
    | succ N ih =>
      intro i2n26 i5n26  hi5 hm
      have ih26 := ih
      have hri5 := j_rng i5n26
      refine J_iload dX7_leadingOn_26 rfl ?_
      refine J_iload_n dX7_leadingOn_28 rfl ?_
      refine J_callS1 moX7_directions jw_ml_X7_133 jw_st_X7_directions dX7_leadingOn_29 (w_X7_directions (d - 1) _ x1 (by omega)   ) (by omega) (Nat.zero_le _) (Nat.zero_le _) (Nat.le_of_ble_eq_true rfl) (fun r29 V29 h29 => ?_)
      obtain ⟨⟨y29, rfl, hl29, hh29, hP29_0⟩, hE29⟩ := h29
      have hE29 := hE29.symm
      subst hE29
      have hz29 : jEq y29.toInt (jdir (x1.toInt)) := hP29_0
      simp only [hP29_0] at hl29 hh29
      clear hP29_0
      refine Jz_icmp_ge (tgt := 154) jEq.rf hz29 dX7_leadingOn_32 (by decide) (fun c32 => ?_) (fun c32 => ?_)
      · refine J_iload_n dX7_leadingOn_154 rfl ?_
        exact J_ret (r := some (.int _)) dX7_leadingOn_155 ⟨rfl, _, rfl, rfl⟩ (⟨⟨_, rfl, (j_rng _).1, (j_rng _).2⟩, rfl⟩)
      · refine Jz_iconst 1 dX7_leadingOn_35 (by decide) (fun y35 he35 => ?_)
        refine J_istore dX7_leadingOn_36 rfl (by decide) ?_
        refine Jz_iconst 0 dX7_leadingOn_38 (by decide) (fun y38 he38 => ?_)
        refine J_istore dX7_leadingOn_39 rfl (by decide) ?_
        have L41 : ∀ (N : Nat) (i6n41 : Int32) (i7n41 : Int32), (0 ≤ i7n41.toInt) → (0 ≤ i6n41.toInt ∧ i6n41.toInt ≤ 1) → (300 - i7n41.toInt).toNat < N → J tS mX7_leadingOn d 41 [some (.ref a0), some (.int x1), some (.int i2n26), some (.int y10), some (.int y20), some (.int i5n26), some (.int i6n41), some (.int i7n41)] [] V0 0 0 (fun r V => (fun r _ => ∃ y : Int32, r = some (.int y) ∧ ((-2147483648) ≤ y.toInt) ∧ (y.toInt ≤ 2147483647)) r V ∧ V = V0) := by
          intro N
          induction N with
          | zero => intro i6n41 i7n41  hi7 hb6 hm; exact absurd hm (Nat.not_lt_zero _)
          | succ N ih =>
            intro i6n41 i7n41  hi7 hb6 hm
            have ih41 := ih
            have hri7 := j_rng i7n41
            refine J_iload dX7_leadingOn_41 rfl ?_
            refine J_aload_n dX7_leadingOn_43 rfl ?_
            refine J_get jf_X7_109 dX7_leadingOn_44 hO3 hF7 ?_
            refine Jz_icmp_ge (tgt := 135) jEq.rf jEq.rf dX7_leadingOn_47 (by decide) (fun c47 => ?_) (fun c47 => ?_)
            · refine J_iload_n dX7_leadingOn_135 rfl ?_
              refine J_iload dX7_leadingOn_136 rfl ?_
              refine Jz_if_eq (tgt := 145) jEq.rf dX7_leadingOn_138 (by decide) (fun c138 => ?_) (fun c138 => ?_)
              · refine Jz_iconst 0 dX7_leadingOn_145 (by decide) (fun y145 he145 => ?_)
                refine Jz_iaddw dX7_leadingOn_146 (fun y146  => ?_)
                refine J_istore_n dX7_leadingOn_147 rfl (by decide) ?_
                refine Jz_iinc 1 dX7_leadingOn_148 rfl rfl (by decide) jEq.rf (by decide) (by omega) (by omega) (fun y148 he148 => ?_)
                refine J_goto (tgt := 26) dX7_leadingOn_151 (by decide) ?_
                refine J.mask [true, true, true, true, true, true, false, false] ?_
                exact ih26  y146 y148  (by (try simp only [he148.eq, true_and, and_true]) <;> omega) (by (try simp only [he148.eq, true_and, and_true]) <;> omega)
              · refine Jz_iconst 1 dX7_leadingOn_141 (by decide) (fun y141 he141 => ?_)
                refine J_goto (tgt := 146) dX7_leadingOn_142 (by decide) ?_
                refine Jz_iaddw dX7_leadingOn_146 (fun y146  => ?_)
                refine J_istore_n dX7_leadingOn_147 rfl (by decide) ?_
                refine Jz_iinc 1 dX7_leadingOn_148 rfl rfl (by decide) jEq.rf (by decide) (by omega) (by omega) (fun y148 he148 => ?_)
                refine J_goto (tgt := 26) dX7_leadingOn_151 (by decide) ?_
                refine J.mask [true, true, true, true, true, true, false, false] ?_
                exact ih26  y146 y148  (by (try simp only [he148.eq, true_and, and_true]) <;> omega) (by (try simp only [he148.eq, true_and, and_true]) <;> omega)
            · refine J_iload dX7_leadingOn_50 rfl ?_
              refine Jz_if_eq (tgt := 126) jEq.rf dX7_leadingOn_52 (by decide) (fun c52 => ?_) (fun c52 => ?_)
              · refine Jz_iconst 0 dX7_leadingOn_126 (by decide) (fun y126 he126 => ?_)
                refine J_istore dX7_leadingOn_127 rfl (by decide) ?_
                refine Jz_iinc 1 dX7_leadingOn_129 rfl rfl (by decide) jEq.rf (by decide) (by omega) (by omega) (fun y129 he129 => ?_)
                refine J_goto (tgt := 41) dX7_leadingOn_132 (by decide) ?_
                refine J.mask [true, true, true, true, true, true, true, true] ?_
                exact ih41  y126 y129  (by (try simp only [he126.eq, he129.eq, true_and, and_true]) <;> omega) (by (try simp only [he126.eq, he129.eq, true_and, and_true]) <;> omega) (by (try simp only [he126.eq, he129.eq, true_and, and_true]) <;> omega)
              · refine J_aload_n dX7_leadingOn_55 rfl ?_
                refine J_get jf_X7_22 dX7_leadingOn_56 hO3 hF3 ?_
                refine J_iload dX7_leadingOn_59 rfl ?_
                refine Jz_ialdw jEq.rf dX7_leadingOn_61 hA10 rfl (by omega) (by omega) (fun y61 => ?_)
                refine J_iload_n dX7_leadingOn_62 rfl ?_
                refine J_iload_n dX7_leadingOn_63 rfl ?_
                refine J_iload dX7_leadingOn_64 rfl ?_
                refine J_callS2 moX7_stepX jw_ml_X7_112 jw_st_X7_stepX dX7_leadingOn_66 (w_X7_stepX (d - 1) _ x1 i5n26 (by omega)   ) (by omega) (Nat.zero_le _) (Nat.zero_le _) (Nat.le_of_ble_eq_true rfl) (fun r66 V66 h66 => ?_)
                obtain ⟨⟨y66, rfl, hl66, hh66⟩, hE66⟩ := h66
                have hE66 := hE66.symm
                subst hE66
                refine Jz_iaddw dX7_leadingOn_69 (fun y69  => ?_)
                refine Jz_icmp_ne (tgt := 122) jEq.rf jEq.rf dX7_leadingOn_70 (by decide) (fun c70 => ?_) (fun c70 => ?_)
                · refine Jz_iconst 1 dX7_leadingOn_122 (by decide) (fun y122 he122 => ?_)
                  refine J_goto (tgt := 127) dX7_leadingOn_123 (by decide) ?_
                  refine J_istore dX7_leadingOn_127 rfl (by decide) ?_
                  refine Jz_iinc 1 dX7_leadingOn_129 rfl rfl (by decide) jEq.rf (by decide) (by omega) (by omega) (fun y129 he129 => ?_)
                  refine J_goto (tgt := 41) dX7_leadingOn_132 (by decide) ?_
                  refine J.mask [true, true, true, true, true, true, true, true] ?_
                  exact ih41  y122 y129  (by (try simp only [he122.eq, he129.eq, true_and, and_true]) <;> omega) (by (try simp only [he122.eq, he129.eq, true_and, and_true]) <;> omega) (by (try simp only [he122.eq, he129.eq, true_and, and_true]) <;> omega)
                · refine J_aload_n dX7_leadingOn_73 rfl ?_
                  refine J_get jf_X7_25 dX7_leadingOn_74 hO3 hF13 ?_
                  refine J_iload dX7_leadingOn_77 rfl ?_
                  refine Jz_ialdw jEq.rf dX7_leadingOn_79 hA20 rfl (by omega) (by omega) (fun y79 => ?_)
                  refine J_iload dX7_leadingOn_80 rfl ?_
                  refine J_iload_n dX7_leadingOn_82 rfl ?_
                  refine J_iload dX7_leadingOn_83 rfl ?_
                  refine J_iload_n dX7_leadingOn_85 rfl ?_
                  refine J_iload dX7_leadingOn_86 rfl ?_
                  refine Jz_iaddw dX7_leadingOn_88 (fun y88  => ?_)
                  refine J_callS3 moX7_stepY jw_ml_X7_115 jw_st_X7_stepY dX7_leadingOn_89 (w_X7_stepY (d - 1) _ x1 i5n26 y88 (by omega)   ) (by omega) (Nat.zero_le _) (Nat.zero_le _) (Nat.le_of_ble_eq_true rfl) (fun r89 V89 h89 => ?_)
                  obtain ⟨⟨y89, rfl, hl89, hh89⟩, hE89⟩ := h89
                  have hE89 := hE89.symm
                  subst hE89
                  refine Jz_iaddw dX7_leadingOn_92 (fun y92  => ?_)
                  refine Jz_icmp_ne (tgt := 122) jEq.rf jEq.rf dX7_leadingOn_93 (by decide) (fun c93 => ?_) (fun c93 => ?_)
                  · refine Jz_iconst 1 dX7_leadingOn_122 (by decide) (fun y122 he122 => ?_)
                    refine J_goto (tgt := 127) dX7_leadingOn_123 (by decide) ?_
                    refine J_istore dX7_leadingOn_127 rfl (by decide) ?_
                    refine Jz_iinc 1 dX7_leadingOn_129 rfl rfl (by decide) jEq.rf (by decide) (by omega) (by omega) (fun y129 he129 => ?_)
                    refine J_goto (tgt := 41) dX7_leadingOn_132 (by decide) ?_
                    refine J.mask [true, true, true, true, true, true, true, true] ?_
                    exact ih41  y122 y129  (by (try simp only [he122.eq, he129.eq, true_and, and_true]) <;> omega) (by (try simp only [he122.eq, he129.eq, true_and, and_true]) <;> omega) (by (try simp only [he122.eq, he129.eq, true_and, and_true]) <;> omega)
                  · refine J_aload_n dX7_leadingOn_96 rfl ?_
                    obtain ⟨w97, hF97, b97, rfl, hb97⟩ := hK3.2 8 (.inr (some (.inl 20))) rfl
                    refine J_get jf_X7_28 dX7_leadingOn_97 hO3 hF97 ?_
                    refine J_iload dX7_leadingOn_100 rfl ?_
                    obtain ⟨n102, f102, hA102, hN102, hM102, hv102⟩ := WT_arrI (r := (-2147483648, 2147483647)) hW id rfl hb97
                    obtain rfl := hM102 121 rfl
                    clear hN102 hM102
                    refine Jz_ialdw jEq.rf dX7_leadingOn_102 hA102 rfl (by omega) (by omega) (fun y102 => ?_)
                    refine J_aload_n dX7_leadingOn_103 rfl ?_
                    refine J_get jf_X7_28 dX7_leadingOn_104 hO3 hF97 ?_
                    refine J_aload_n dX7_leadingOn_107 rfl ?_
                    refine J_get jf_X7_109 dX7_leadingOn_108 hO3 hF7 ?_
                    refine Jz_ialdw jEq.rf dX7_leadingOn_111 hA102 rfl (by omega) (by omega) (fun y111 => ?_)
                    refine J_iload_n dX7_leadingOn_112 rfl ?_
                    refine J_iload dX7_leadingOn_113 rfl ?_
                    refine J_callS2 moX7_stepZ jw_ml_X7_119 jw_st_X7_stepZ dX7_leadingOn_115 (w_X7_stepZ (d - 1) _ x1 i5n26 (by omega)   ) (by omega) (Nat.zero_le _) (Nat.zero_le _) (Nat.le_of_ble_eq_true rfl) (fun r115 V115 h115 => ?_)
                    obtain ⟨⟨y115, rfl, hl115, hh115⟩, hE115⟩ := h115
                    have hE115 := hE115.symm
                    subst hE115
                    refine Jz_iaddw dX7_leadingOn_118 (fun y118  => ?_)
                    refine Jz_icmp_eq (tgt := 126) jEq.rf jEq.rf dX7_leadingOn_119 (by decide) (fun c119 => ?_) (fun c119 => ?_)
                    · refine Jz_iconst 0 dX7_leadingOn_126 (by decide) (fun y126 he126 => ?_)
                      refine J_istore dX7_leadingOn_127 rfl (by decide) ?_
                      refine Jz_iinc 1 dX7_leadingOn_129 rfl rfl (by decide) jEq.rf (by decide) (by omega) (by omega) (fun y129 he129 => ?_)
                      refine J_goto (tgt := 41) dX7_leadingOn_132 (by decide) ?_
                      refine J.mask [true, true, true, true, true, true, true, true] ?_
                      exact ih41  y126 y129  (by (try simp only [he126.eq, he129.eq, true_and, and_true]) <;> omega) (by (try simp only [he126.eq, he129.eq, true_and, and_true]) <;> omega) (by (try simp only [he126.eq, he129.eq, true_and, and_true]) <;> omega)
                    · refine Jz_iconst 1 dX7_leadingOn_122 (by decide) (fun y122 he122 => ?_)
                      refine J_goto (tgt := 127) dX7_leadingOn_123 (by decide) ?_
                      refine J_istore dX7_leadingOn_127 rfl (by decide) ?_
                      refine Jz_iinc 1 dX7_leadingOn_129 rfl rfl (by decide) jEq.rf (by decide) (by omega) (by omega) (fun y129 he129 => ?_)
                      refine J_goto (tgt := 41) dX7_leadingOn_132 (by decide) ?_
                      refine J.mask [true, true, true, true, true, true, true, true] ?_
                      exact ih41  y122 y129  (by (try simp only [he122.eq, he129.eq, true_and, and_true]) <;> omega) (by (try simp only [he122.eq, he129.eq, true_and, and_true]) <;> omega) (by (try simp only [he122.eq, he129.eq, true_and, and_true]) <;> omega)
        refine J.mask [true, true, true, true, true, true, true, true] ?_
        exact L41 _  y35 y38    (by (try simp only [he35.eq, he38.eq, true_and, and_true]) <;> omega) (by (try simp only [he35.eq, he38.eq, true_and, and_true]) <;> omega) (Nat.lt_succ_self _)
  refine J.mask [true, true, true, true, true, true, false, false] ?_
  exact L26 _  y0 y23    (by (try simp only [he0.eq, he23.eq, true_and, and_true]) <;> omega) (Nat.lt_succ_self _)
set_option maxRecDepth 100000 in
set_option maxHeartbeats 8000000 in
theorem w_X7_about {tS : jTS} (d : Nat) (V0 : jH) (a0 : Nat) (x1 : Int32) (x2 : Int32) (hd : 2 ≤ d) (hW : WT V0) (ha0 : jis V0 (.inr 5) a0) : jTot tS mX7_about d [.ref a0, .int x1, .int x2] V0 0 0 (fun r V => (jPost [.inr 5, .inl 17, .inl 18, .inl 19, .inl 20] V0 (fun r _ => ∃ y : Int32, r = some (.int y) ∧ ((-2147483648) ≤ y.toInt) ∧ (y.toInt ≤ 2147483647))) r V ∧ jkc 5 [0, 23, 24] V0 V) := by
  refine jTot.of_J [some (.ref a0), some (.int x1), some (.int x2), none, none, none] moX7_about (Nat.le_of_ble_eq_true rfl) rfl ?_
  have hrx1 := j_rng x1
  have hrx2 := j_rng x2
  have he : jeff [.inr 5, .inl 17, .inl 18, .inl 19, .inl 20] V0 V0 := jeff.refl _ _
  have hkp : jkc 5 [0, 23, 24] V0 V0 := jkc.rf
  refine J_aload_n dX7_about_0 rfl ?_
  refine J_iload_n dX7_about_1 rfl ?_
  refine Jw_callV1 (q9 := (RX7, TX7, 34)) moX7_isWalk jw_ml_X7_130 jw_im_X7_isWalk jw_se_X7_isWalk ha0 rfl rfl dX7_about_2 (w_X7_isWalk (d - 1) _ a0 x1 (by omega) hW  ha0) (by omega) (Nat.zero_le _) (Nat.zero_le _) (Nat.le_of_ble_eq_true rfl) (fun r2 V2 h2 => ?_)
  obtain ⟨⟨y2, rfl, hl2, hh2, hI2_0⟩, hE2⟩ := h2
  have hE2 := hE2.symm
  subst hE2
  refine Jz_if_eq (tgt := 18) jEq.rf dX7_about_5 (by decide) (fun c5 => ?_) (fun c5 => ?_)
  · refine Jz_bipush (-2) dX7_about_18 (by decide) (fun y18 he18 => ?_)
    exact J_ret (r := some (.int _)) dX7_about_20 ⟨rfl, _, rfl, rfl⟩ (⟨⟨hW, he, ⟨_, rfl, (j_rng _).1, (j_rng _).2⟩⟩, hkp⟩)
  · have q5_0 := hI2_0.of (by omega)
    refine J_iload_n dX7_about_8 rfl ?_
    refine Jz_iconst 0 dX7_about_9 (by decide) (fun y9 he9 => ?_)
    refine Jz_bipush 7 dX7_about_10 (by decide) (fun y10 he10 => ?_)
    refine J_callS3 moX7_in jw_ml_X7_105 jw_st_X7_in dX7_about_12 (w_X7_in (d - 1) _ x2 y9 y10 (by omega)   ) (by omega) (Nat.zero_le _) (Nat.zero_le _) (Nat.le_of_ble_eq_true rfl) (fun r12 V12 h12 => ?_)
    obtain ⟨⟨y12, rfl, hl12, hh12, hI12_0, hI12_1⟩, hE12⟩ := h12
    have hE12 := hE12.symm
    subst hE12
    refine Jz_if_ne (tgt := 21) jEq.rf dX7_about_15 (by decide) (fun c15 => ?_) (fun c15 => ?_)
    · have q15_0 := hI12_0.of (by omega)
      try simp only [he9.eq, he10.eq] at q15_0
      refine J_aload_n dX7_about_21 rfl ?_
      obtain ⟨fs22, hO22, hK22⟩ := WT_obj hW id ha0
      obtain ⟨w22, hF22, b22, rfl, hb22⟩ := hK22.2 1 (.inr (some (.inl 14))) rfl
      refine J_get jf_X7_7 dX7_about_22 hO22 hF22 ?_
      refine J_iload_n dX7_about_25 rfl ?_
      obtain ⟨n26, f26, hA26, hN26, hM26, hv26⟩ := WT_arrI (r := (0, 3)) hW id rfl hb22
      obtain rfl := hM26 16 rfl
      clear hN26 hM26
      refine Jz_ialdr (r := (0, 3)) jEq.rf dX7_about_26 hA26 rfl hv26 (by omega) (by omega) (fun y26 hl26 hh26 => ?_)
      dsimp only at hl26 hh26
      refine J_istore_n dX7_about_27 rfl (by decide) ?_
      refine J_aload_n dX7_about_28 rfl ?_
      refine J_iload_n dX7_about_29 rfl ?_
      refine Jw_callV1 (q9 := (RX7, TX7, 34)) moX7_brings jw_ml_X7_137 jw_im_X7_brings jw_se_X7_brings ha0 rfl rfl dX7_about_30 (w_X7_brings (d - 1) _ a0 x1 (by omega) hW  ha0 (by omega) (by omega)) (by omega) (Nat.zero_le _) (Nat.zero_le _) (Nat.le_of_ble_eq_true rfl) (fun r30 V30 h30 => ?_)
      obtain ⟨h30, hX30_0, ⟨fv30_0, hfv30_0, hfp30_0⟩⟩ := h30
      obtain ⟨hW, hx30, hr30⟩ := h30
      have he := he.trans (hx30.sub (jsub_of rfl))
      have hkp := hkp.trans hX30_0
      have ha0 := ha0.mono hx30.1
      have hb22 := hb22.mono hx30.1
      obtain ⟨fs30a0, hOfs30a0, hRfs30a0⟩ := hx30.1.keep hO22
      have hKfs30a0 : jokO _ (jFs 5) fs30a0 := hW _ _ id hOfs30a0
      have hFfs30a0_1 := hRfs30a0 _ _ hF22
      have hA26 := hx30.2 _ _ hA26 (jnot_of rfl)
      cases hr30
      have hFv30_0 := hfv30_0.get hOfs30a0
      refine J_aload_n dX7_about_33 rfl ?_
      refine J_iload_n dX7_about_34 rfl ?_
      refine Jw_callV1 (q9 := (RX7, TX7, 34)) moX7_goes jw_ml_X7_122 jw_im_X7_goes jw_se_X7_goes ha0 rfl rfl dX7_about_35 (w_X7_goes (d - 1) _ a0 y26 (by omega) hW  ha0) (by omega) (Nat.zero_le _) (Nat.zero_le _) (Nat.le_of_ble_eq_true rfl) (fun r35 V35 h35 => ?_)
      obtain ⟨hW, hx35, hr35⟩ := h35
      have he := he.trans (hx35.sub (jsub_of rfl))
      have hkp := hkp.trans (jkc.of hx35 (jnot_of rfl))
      have ha0 := ha0.mono hx35.1
      have hb22 := hb22.mono hx35.1
      have hOfs30a0 := hx35.2 _ _ hOfs30a0 (jnot_of rfl)
      have hKfs30a0 := hKfs30a0.mono hx35.1
      have hA26 := hx35.2 _ _ hA26 (jnot_of rfl)
      obtain ⟨y35, rfl, hl35, hh35⟩ := hr35
      refine J_pop dX7_about_38 rfl ?_
      refine Jz_iconst 0 dX7_about_39 (by decide) (fun y39 he39 => ?_)
      refine J_istore dX7_about_40 rfl (by decide) ?_
      refine J_iload_n dX7_about_42 rfl ?_
      rcases jsw6 x2 with hx43 | hx43 | hx43 | hx43 | hx43 | hx43 | hx43 | hx43 | hx43
      · have hx43t : x2.toInt = 0 := by rw [hx43]; rfl
        clear hx43
        refine J_tableIn (tgt := 84) dX7_about_43 (by omega) (by omega) (by rw [hx43t]; rfl) (by decide) ?_
        refine J_iload_n dX7_about_84 rfl ?_
        exact J_ret (r := some (.int _)) dX7_about_85 ⟨rfl, _, rfl, rfl⟩ (⟨⟨hW, he, ⟨_, rfl, (j_rng _).1, (j_rng _).2⟩⟩, hkp⟩)
      · have hx43t : x2.toInt = 1 := by rw [hx43]; rfl
        clear hx43
        refine J_tableIn (tgt := 86) dX7_about_43 (by omega) (by omega) (by rw [hx43t]; rfl) (by decide) ?_
        refine J_aload_n dX7_about_86 rfl ?_
        refine J_get jf_X7_109 dX7_about_87 hOfs30a0 hFv30_0 ?_
        exact J_ret (r := some (.int _)) dX7_about_90 ⟨rfl, _, rfl, rfl⟩ (⟨⟨hW, he, ⟨_, rfl, (j_rng _).1, (j_rng _).2⟩⟩, hkp⟩)
      · have hx43t : x2.toInt = 2 := by rw [hx43]; rfl
        clear hx43
        refine J_tableIn (tgt := 91) dX7_about_43 (by omega) (by omega) (by rw [hx43t]; rfl) (by decide) ?_
        refine J_iload_n dX7_about_91 rfl ?_
        refine J_aload_n dX7_about_92 rfl ?_
        obtain ⟨w93, hF93, b93, rfl, hb93⟩ := hKfs30a0.2 6 (.inr (some (.inl 18))) rfl
        refine J_get jf_X7_22 dX7_about_93 hOfs30a0 hF93 ?_
        refine J_aload_n dX7_about_96 rfl ?_
        refine J_get jf_X7_109 dX7_about_97 hOfs30a0 hFv30_0 ?_
        obtain ⟨n100, f100, hA100, hN100, hM100, hv100⟩ := WT_arrI (r := (-2147483648, 2147483647)) hW id rfl hb93
        obtain rfl := hM100 121 rfl
        clear hN100 hM100
        refine Jz_ialdw jEq.rf dX7_about_100 hA100 rfl (by omega) (by omega) (fun y100 => ?_)
        refine J_aload_n dX7_about_101 rfl ?_
        obtain ⟨w102, hF102, b102, rfl, hb102⟩ := hKfs30a0.2 7 (.inr (some (.inl 19))) rfl
        refine J_get jf_X7_25 dX7_about_102 hOfs30a0 hF102 ?_
        refine J_aload_n dX7_about_105 rfl ?_
        refine J_get jf_X7_109 dX7_about_106 hOfs30a0 hFv30_0 ?_
        obtain ⟨n109, f109, hA109, hN109, hM109, hv109⟩ := WT_arrI (r := (-2147483648, 2147483647)) hW id rfl hb102
        obtain rfl := hM109 121 rfl
        clear hN109 hM109
        refine Jz_ialdw jEq.rf dX7_about_109 hA109 rfl (by omega) (by omega) (fun y109 => ?_)
        refine J_aload_n dX7_about_110 rfl ?_
        obtain ⟨w111, hF111, b111, rfl, hb111⟩ := hKfs30a0.2 8 (.inr (some (.inl 20))) rfl
        refine J_get jf_X7_28 dX7_about_111 hOfs30a0 hF111 ?_
        refine J_aload_n dX7_about_114 rfl ?_
        refine J_get jf_X7_109 dX7_about_115 hOfs30a0 hFv30_0 ?_
        obtain ⟨n118, f118, hA118, hN118, hM118, hv118⟩ := WT_arrI (r := (-2147483648, 2147483647)) hW id rfl hb111
        obtain rfl := hM118 121 rfl
        clear hN118 hM118
        refine Jz_ialdw jEq.rf dX7_about_118 hA118 rfl (by omega) (by omega) (fun y118 => ?_)
        refine J_callS4 moX7_square jw_ml_X7_152 jw_st_X7_square dX7_about_119 (w_X7_square (d - 1) _ y26 y100 y109 y118 (by omega)   ) (by omega) (Nat.zero_le _) (Nat.zero_le _) (Nat.le_of_ble_eq_true rfl) (fun r119 V119 h119 => ?_)
        obtain ⟨⟨y119, rfl, hl119, hh119⟩, hE119⟩ := h119
        have hE119 := hE119.symm
        subst hE119
        clear hl119 hh119
        exact J_ret (r := some (.int _)) dX7_about_122 ⟨rfl, _, rfl, rfl⟩ (⟨⟨hW, he, ⟨_, rfl, (j_rng _).1, (j_rng _).2⟩⟩, hkp⟩)
      · have hx43t : x2.toInt = 3 := by rw [hx43]; rfl
        clear hx43
        refine J_tableIn (tgt := 123) dX7_about_43 (by omega) (by omega) (by rw [hx43t]; rfl) (by decide) ?_
        refine J_aload_n dX7_about_123 rfl ?_
        refine J_iload_n dX7_about_124 rfl ?_
        refine Jw_callV1 (q9 := (RX7, TX7, 34)) moX7_isRing jw_ml_X7_156 jw_im_X7_isRing jw_se_X7_isRing ha0 rfl rfl dX7_about_125 (w_X7_isRing (d - 1) _ a0 y26 (by omega) hW  ha0) (by omega) (Nat.zero_le _) (Nat.zero_le _) (Nat.le_of_ble_eq_true rfl) (fun r125 V125 h125 => ?_)
        obtain ⟨⟨y125, rfl, hl125, hh125⟩, hE125⟩ := h125
        have hE125 := hE125.symm
        subst hE125
        refine Jz_if_eq (tgt := 135) jEq.rf dX7_about_128 (by decide) (fun c128 => ?_) (fun c128 => ?_)
        · refine Jz_iconst 0 dX7_about_135 (by decide) (fun y135 he135 => ?_)
          exact J_ret (r := some (.int _)) dX7_about_136 ⟨rfl, _, rfl, rfl⟩ (⟨⟨hW, he, ⟨_, rfl, (j_rng _).1, (j_rng _).2⟩⟩, hkp⟩)
        · refine Jz_iconst 1 dX7_about_131 (by decide) (fun y131 he131 => ?_)
          refine J_goto (tgt := 136) dX7_about_132 (by decide) ?_
          exact J_ret (r := some (.int _)) dX7_about_136 ⟨rfl, _, rfl, rfl⟩ (⟨⟨hW, he, ⟨_, rfl, (j_rng _).1, (j_rng _).2⟩⟩, hkp⟩)
      · have hx43t : x2.toInt = 4 := by rw [hx43]; rfl
        clear hx43
        refine J_tableIn (tgt := 137) dX7_about_43 (by omega) (by omega) (by rw [hx43t]; rfl) (by decide) ?_
        refine J_iload_n dX7_about_137 rfl ?_
        refine Jz_iconst 3 dX7_about_138 (by decide) (fun y138 he138 => ?_)
        refine Jz_icmp_eq (tgt := 150) jEq.rf he138 dX7_about_139 (by decide) (fun c139 => ?_) (fun c139 => ?_)
        · refine Jz_iconst (-1) dX7_about_150 (by decide) (fun y150 he150 => ?_)
          refine J_goto (tgt := 158) dX7_about_151 (by decide) ?_
          exact J_ret (r := some (.int _)) dX7_about_158 ⟨rfl, _, rfl, rfl⟩ (⟨⟨hW, he, ⟨_, rfl, (j_rng _).1, (j_rng _).2⟩⟩, hkp⟩)
        · refine J_aload_n dX7_about_142 rfl ?_
          refine J_iload_n dX7_about_143 rfl ?_
          refine Jw_callV1 (q9 := (RX7, TX7, 34)) moX7_isRing jw_ml_X7_156 jw_im_X7_isRing jw_se_X7_isRing ha0 rfl rfl dX7_about_144 (w_X7_isRing (d - 1) _ a0 y26 (by omega) hW  ha0) (by omega) (Nat.zero_le _) (Nat.zero_le _) (Nat.le_of_ble_eq_true rfl) (fun r144 V144 h144 => ?_)
          obtain ⟨⟨y144, rfl, hl144, hh144⟩, hE144⟩ := h144
          have hE144 := hE144.symm
          subst hE144
          refine Jz_if_ne (tgt := 154) jEq.rf dX7_about_147 (by decide) (fun c147 => ?_) (fun c147 => ?_)
          · refine J_aload_n dX7_about_154 rfl ?_
            refine Jw_callV0 (q9 := (RX7, TX7, 34)) moX7_area jw_ml_X7_159 jw_im_X7_area jw_se_X7_area ha0 rfl rfl dX7_about_155 (w_X7_area (d - 1) _ a0 (by omega) hW  ha0) (by omega) (Nat.zero_le _) (Nat.zero_le _) (Nat.le_of_ble_eq_true rfl) (fun r155 V155 h155 => ?_)
            obtain ⟨⟨y155, rfl, hl155, hh155⟩, hE155⟩ := h155
            have hE155 := hE155.symm
            subst hE155
            clear hl155 hh155
            exact J_ret (r := some (.int _)) dX7_about_158 ⟨rfl, _, rfl, rfl⟩ (⟨⟨hW, he, ⟨_, rfl, (j_rng _).1, (j_rng _).2⟩⟩, hkp⟩)
          · refine Jz_iconst (-1) dX7_about_150 (by decide) (fun y150 he150 => ?_)
            refine J_goto (tgt := 158) dX7_about_151 (by decide) ?_
            exact J_ret (r := some (.int _)) dX7_about_158 ⟨rfl, _, rfl, rfl⟩ (⟨⟨hW, he, ⟨_, rfl, (j_rng _).1, (j_rng _).2⟩⟩, hkp⟩)
      · have hx43t : x2.toInt = 5 := by rw [hx43]; rfl
        clear hx43
        refine J_tableIn (tgt := 159) dX7_about_43 (by omega) (by omega) (by rw [hx43t]; rfl) (by decide) ?_
        refine Jz_iconst 1 dX7_about_159 (by decide) (fun y159 he159 => ?_)
        refine J_istore dX7_about_160 rfl (by decide) ?_
        have L162 : ∀ (N : Nat) (V : jH) (i4n162 : Int32) (i5n162 : Int32), WT V → jeff [.inr 5, .inl 17, .inl 18, .inl 19, .inl 20] V0 V → (jis V (.inr 5) a0) → (jis V (.inl 14) b22) → (jkc 5 [0, 23, 24] V0 V) → (V a0 = some (.inr (5, fs30a0))) → (jokO V (jFs 5) fs30a0) → (1 ≤ i5n162.toInt) → (300 - i5n162.toInt).toNat < N → J tS mX7_about d 162 [some (.ref a0), some (.int x1), some (.int x2), some (.int y26), some (.int i4n162), some (.int i5n162)] [] V 0 0 (fun r V => (jPost [.inr 5, .inl 17, .inl 18, .inl 19, .inl 20] V0 (fun r _ => ∃ y : Int32, r = some (.int y) ∧ ((-2147483648) ≤ y.toInt) ∧ (y.toInt ≤ 2147483647))) r V ∧ jkc 5 [0, 23, 24] V0 V) := by
          intro N
          induction N with
          | zero => intro V i4n162 i5n162 hW he ha0 hb22 hkp hOfs30a0 hKfs30a0 hi5 hm; exact absurd hm (Nat.not_lt_zero _)
          | succ N ih =>
            intro V i4n162 i5n162 hW he ha0 hb22 hkp hOfs30a0 hKfs30a0 hi5 hm
            have ih162 := ih
            have hri5 := j_rng i5n162
            refine J_iload dX7_about_162 rfl ?_
            refine J_aload_n dX7_about_164 rfl ?_
            refine J_get jf_X7_109 dX7_about_165 hOfs30a0 hFv30_0 ?_
            refine Jz_icmp_ge (tgt := 206) jEq.rf jEq.rf dX7_about_168 (by decide) (fun c168 => ?_) (fun c168 => ?_)
            · refine J_iload dX7_about_206 rfl ?_
              exact J_ret (r := some (.int _)) dX7_about_208 ⟨rfl, _, rfl, rfl⟩ (⟨⟨hW, he, ⟨_, rfl, (j_rng _).1, (j_rng _).2⟩⟩, hkp⟩)
            · refine J_iload dX7_about_171 rfl ?_
              refine J_aload_n dX7_about_173 rfl ?_
              obtain ⟨w174, hF174, b174, rfl, hb174⟩ := hKfs30a0.2 4 (.inr (some (.inl 17))) rfl
              refine J_get jf_X7_19 dX7_about_174 hOfs30a0 hF174 ?_
              refine J_iload dX7_about_177 rfl ?_
              obtain ⟨n179, f179, hA179, hN179, hM179, hv179⟩ := WT_arrI (r := (-2147483648, 2147483647)) hW id rfl hb174
              obtain rfl := hM179 120 rfl
              clear hN179 hM179
              refine Jz_ialdw jEq.rf dX7_about_179 hA179 rfl (by omega) (by omega) (fun y179 => ?_)
              refine J_aload_n dX7_about_180 rfl ?_
              refine J_get jf_X7_19 dX7_about_181 hOfs30a0 hF174 ?_
              refine J_iload dX7_about_184 rfl ?_
              refine Jz_iconst 1 dX7_about_186 (by decide) (fun y186 he186 => ?_)
              refine Jz_isub jEq.rf he186 dX7_about_187 (by omega) (by omega) (fun y187 he187 => ?_)
              refine Jz_ialdw he187 dX7_about_188 hA179 rfl (by omega) (by omega) (fun y188 => ?_)
              refine Jz_icmp_eq (tgt := 196) jEq.rf jEq.rf dX7_about_189 (by decide) (fun c189 => ?_) (fun c189 => ?_)
              · refine Jz_iconst 0 dX7_about_196 (by decide) (fun y196 he196 => ?_)
                refine Jz_iaddw dX7_about_197 (fun y197  => ?_)
                refine J_istore dX7_about_198 rfl (by decide) ?_
                refine Jz_iinc 1 dX7_about_200 rfl rfl (by decide) jEq.rf (by decide) (by omega) (by omega) (fun y200 he200 => ?_)
                refine J_goto (tgt := 162) dX7_about_203 (by decide) ?_
                refine J.mask [true, true, true, true, true, true] ?_
                exact ih162 _ y197 y200 hW he ha0 hb22 hkp hOfs30a0 hKfs30a0 (by (try simp only [he200.eq, true_and, and_true]) <;> omega) (by (try simp only [he200.eq, true_and, and_true]) <;> omega)
              · refine Jz_iconst 1 dX7_about_192 (by decide) (fun y192 he192 => ?_)
                refine J_goto (tgt := 197) dX7_about_193 (by decide) ?_
                refine Jz_iaddw dX7_about_197 (fun y197  => ?_)
                refine J_istore dX7_about_198 rfl (by decide) ?_
                refine Jz_iinc 1 dX7_about_200 rfl rfl (by decide) jEq.rf (by decide) (by omega) (by omega) (fun y200 he200 => ?_)
                refine J_goto (tgt := 162) dX7_about_203 (by decide) ?_
                refine J.mask [true, true, true, true, true, true] ?_
                exact ih162 _ y197 y200 hW he ha0 hb22 hkp hOfs30a0 hKfs30a0 (by (try simp only [he200.eq, true_and, and_true]) <;> omega) (by (try simp only [he200.eq, true_and, and_true]) <;> omega)
        refine J.mask [true, true, true, true, true, true] ?_
        exact L162 _ _ y39 y159 hW he ha0 hb22 hkp hOfs30a0 hKfs30a0 (by (try simp only [he39.eq, he159.eq, true_and, and_true]) <;> omega) (Nat.lt_succ_self _)
      · have hx43t : x2.toInt = 6 := by rw [hx43]; rfl
        clear hx43
        refine J_tableIn (tgt := 209) dX7_about_43 (by omega) (by omega) (by rw [hx43t]; rfl) (by decide) ?_
        refine J_aload_n dX7_about_209 rfl ?_
        refine Jw_callV0 (q9 := (RX7, TX7, 34)) moX7_isBridge jw_ml_X7_163 jw_im_X7_isBridge jw_se_X7_isBridge ha0 rfl rfl dX7_about_210 (w_X7_isBridge (d - 1) _ a0 (by omega) hW  ha0) (by omega) (Nat.zero_le _) (Nat.zero_le _) (Nat.le_of_ble_eq_true rfl) (fun r210 V210 h210 => ?_)
        obtain ⟨⟨y210, rfl, hl210, hh210⟩, hE210⟩ := h210
        have hE210 := hE210.symm
        subst hE210
        refine Jz_if_eq (tgt := 220) jEq.rf dX7_about_213 (by decide) (fun c213 => ?_) (fun c213 => ?_)
        · refine Jz_iconst 0 dX7_about_220 (by decide) (fun y220 he220 => ?_)
          exact J_ret (r := some (.int _)) dX7_about_221 ⟨rfl, _, rfl, rfl⟩ (⟨⟨hW, he, ⟨_, rfl, (j_rng _).1, (j_rng _).2⟩⟩, hkp⟩)
        · refine Jz_iconst 1 dX7_about_216 (by decide) (fun y216 he216 => ?_)
          refine J_goto (tgt := 221) dX7_about_217 (by decide) ?_
          exact J_ret (r := some (.int _)) dX7_about_221 ⟨rfl, _, rfl, rfl⟩ (⟨⟨hW, he, ⟨_, rfl, (j_rng _).1, (j_rng _).2⟩⟩, hkp⟩)
      · refine J_tableOut (tgt := 222) dX7_about_43 (Or.inl hx43) (by decide) ?_
        refine J_aload_n dX7_about_222 rfl ?_
        refine J_iload_n dX7_about_223 rfl ?_
        refine Jw_callV1 (q9 := (RX7, TX7, 34)) moX7_leadingOn jw_ml_X7_167 jw_im_X7_leadingOn jw_se_X7_leadingOn ha0 rfl rfl dX7_about_224 (w_X7_leadingOn (d - 1) _ a0 y26 (by omega) hW  ha0) (by omega) (Nat.zero_le _) (Nat.zero_le _) (Nat.le_of_ble_eq_true rfl) (fun r224 V224 h224 => ?_)
        obtain ⟨⟨y224, rfl, hl224, hh224⟩, hE224⟩ := h224
        have hE224 := hE224.symm
        subst hE224
        clear hl224 hh224
        exact J_ret (r := some (.int _)) dX7_about_227 ⟨rfl, _, rfl, rfl⟩ (⟨⟨hW, he, ⟨_, rfl, (j_rng _).1, (j_rng _).2⟩⟩, hkp⟩)
      · refine J_tableOut (tgt := 222) dX7_about_43 (Or.inr hx43) (by decide) ?_
        refine J_aload_n dX7_about_222 rfl ?_
        refine J_iload_n dX7_about_223 rfl ?_
        refine Jw_callV1 (q9 := (RX7, TX7, 34)) moX7_leadingOn jw_ml_X7_167 jw_im_X7_leadingOn jw_se_X7_leadingOn ha0 rfl rfl dX7_about_224 (w_X7_leadingOn (d - 1) _ a0 y26 (by omega) hW  ha0) (by omega) (Nat.zero_le _) (Nat.zero_le _) (Nat.le_of_ble_eq_true rfl) (fun r224 V224 h224 => ?_)
        obtain ⟨⟨y224, rfl, hl224, hh224⟩, hE224⟩ := h224
        have hE224 := hE224.symm
        subst hE224
        clear hl224 hh224
        exact J_ret (r := some (.int _)) dX7_about_227 ⟨rfl, _, rfl, rfl⟩ (⟨⟨hW, he, ⟨_, rfl, (j_rng _).1, (j_rng _).2⟩⟩, hkp⟩)
    · have q15_1 := hI12_1.of (by omega)
      try simp only [he9.eq, he10.eq] at q15_1
      refine Jz_bipush (-2) dX7_about_18 (by decide) (fun y18 he18 => ?_)
      exact J_ret (r := some (.int _)) dX7_about_20 ⟨rfl, _, rfl, rfl⟩ (⟨⟨hW, he, ⟨_, rfl, (j_rng _).1, (j_rng _).2⟩⟩, hkp⟩)
set_option maxRecDepth 100000 in
set_option maxHeartbeats 8000000 in
theorem w_X7_tried {tS : jTS} (d : Nat) (V0 : jH) (a0 : Nat) (x1 : Int32) (x2 : Int32) (x3 : Int32) (x4 : Int32) (v5 : Int32) (hd : 2 ≤ d) (hW : WT V0) (ha0 : jis V0 (.inr 5) a0) (hf_v5 : jfI V0 a0 5 5 v5) (hp0 : 0 ≤ x4.toInt) (hp1 : x4.toInt < v5.toInt) : jTot tS mX7_tried d [.ref a0, .int x1, .int x2, .int x3, .int x4] V0 0 0 (fun r V => (fun r _ => ∃ y : Int32, r = some (.int y) ∧ ((-2147483648) ≤ y.toInt) ∧ (y.toInt ≤ 2147483647)) r V ∧ V = V0) := by
  refine jTot.of_J [some (.ref a0), some (.int x1), some (.int x2), some (.int x3), some (.int x4)] moX7_tried (Nat.le_of_ble_eq_true rfl) rfl ?_
  have hrx1 := j_rng x1
  have hrx2 := j_rng x2
  have hrx3 := j_rng x3
  have hrx4 := j_rng x4
  have he : jeff [] V0 V0 := jeff.refl _ _
  obtain ⟨fs_a0, hO_a0, hK_a0⟩ := WT_obj hW id ha0
  have hF_v5 := hf_v5.get hO_a0
  have hrv5 : 0 ≤ v5.toInt ∧ v5.toInt ≤ 120 := jok_rngI hK_a0 rfl hF_v5
  refine J_iload_n dX7_tried_0 rfl ?_
  refine J_iload_n dX7_tried_1 rfl ?_
  refine J_iload_n dX7_tried_2 rfl ?_
  refine Jz_if_eq (tgt := 27) jEq.rf dX7_tried_3 (by decide) (fun c3 => ?_) (fun c3 => ?_)
  · refine J_aload_n dX7_tried_27 rfl ?_
    obtain ⟨w28, hF28, b28, rfl, hb28⟩ := hK_a0.2 4 (.inr (some (.inl 17))) rfl
    refine J_get jf_X7_19 dX7_tried_28 hO_a0 hF28 ?_
    refine J_iload dX7_tried_31 rfl ?_
    obtain ⟨n33, f33, hA33, hN33, hM33, hv33⟩ := WT_arrI (r := (-2147483648, 2147483647)) hW id rfl hb28
    obtain rfl := hM33 120 rfl
    clear hN33 hM33
    refine Jz_ialdw jEq.rf dX7_tried_33 hA33 rfl (by omega) (by omega) (fun y33 => ?_)
    refine J_callS3 moX7_turned jw_ml_X7_146 jw_st_X7_turned dX7_tried_34 (w_X7_turned (d - 1) _ x1 x2 y33 (by omega)   ) (by omega) (Nat.zero_le _) (Nat.zero_le _) (Nat.le_of_ble_eq_true rfl) (fun r34 V34 h34 => ?_)
    obtain ⟨⟨y34, rfl, hl34, hh34⟩, hE34⟩ := h34
    have hE34 := hE34.symm
    subst hE34
    clear hl34 hh34
    exact J_ret (r := some (.int _)) dX7_tried_37 ⟨rfl, _, rfl, rfl⟩ (⟨⟨_, rfl, (j_rng _).1, (j_rng _).2⟩, rfl⟩)
  · refine J_iload_n dX7_tried_6 rfl ?_
    refine J_aload_n dX7_tried_7 rfl ?_
    obtain ⟨w8, hF8, b8, rfl, hb8⟩ := hK_a0.2 4 (.inr (some (.inl 17))) rfl
    refine J_get jf_X7_19 dX7_tried_8 hO_a0 hF8 ?_
    refine J_aload_n dX7_tried_11 rfl ?_
    refine J_get jf_X7_109 dX7_tried_12 hO_a0 hF_v5 ?_
    refine Jz_iconst 1 dX7_tried_15 (by decide) (fun y15 he15 => ?_)
    refine Jz_isub jEq.rf he15 dX7_tried_16 (by omega) (by omega) (fun y16 he16 => ?_)
    refine J_iload dX7_tried_17 rfl ?_
    refine Jz_isub he16 jEq.rf dX7_tried_19 (by omega) (by omega) (fun y19 he19 => ?_)
    obtain ⟨n20, f20, hA20, hN20, hM20, hv20⟩ := WT_arrI (r := (-2147483648, 2147483647)) hW id rfl hb8
    obtain rfl := hM20 120 rfl
    clear hN20 hM20
    refine Jz_ialdw he19 dX7_tried_20 hA20 rfl (by omega) (by omega) (fun y20 => ?_)
    refine J_callS2 moX7_opposite jw_ml_X7_149 jw_st_X7_opposite dX7_tried_21 (w_X7_opposite (d - 1) _ x1 y20 (by omega)   ) (by omega) (Nat.zero_le _) (Nat.zero_le _) (Nat.le_of_ble_eq_true rfl) (fun r21 V21 h21 => ?_)
    obtain ⟨⟨y21, rfl, hl21, hh21⟩, hE21⟩ := h21
    have hE21 := hE21.symm
    subst hE21
    clear hl21 hh21
    refine J_goto (tgt := 34) dX7_tried_24 (by decide) ?_
    refine J_callS3 moX7_turned jw_ml_X7_146 jw_st_X7_turned dX7_tried_34 (w_X7_turned (d - 1) _ x1 x2 y21 (by omega)   ) (by omega) (Nat.zero_le _) (Nat.zero_le _) (Nat.le_of_ble_eq_true rfl) (fun r34 V34 h34 => ?_)
    obtain ⟨⟨y34, rfl, hl34, hh34⟩, hE34⟩ := h34
    have hE34 := hE34.symm
    subst hE34
    clear hl34 hh34
    exact J_ret (r := some (.int _)) dX7_tried_37 ⟨rfl, _, rfl, rfl⟩ (⟨⟨_, rfl, (j_rng _).1, (j_rng _).2⟩, rfl⟩)
set_option maxRecDepth 100000 in
set_option maxHeartbeats 8000000 in
theorem w_X7_findForm {tS : jTS} (d : Nat) (V0 : jH) (a0 : Nat) (x1 : Int32) (v5 : Int32) (hd : 3 ≤ d) (hW : WT V0) (ha0 : jis V0 (.inr 5) a0) (hf_v5 : jfI V0 a0 5 5 v5) (hp0 : v5.toInt ≤ 60) : jTot tS mX7_findForm d [.ref a0, .int x1] V0 0 0 (jPost [.inl 21] V0 rV) := by
  refine jTot.of_J [some (.ref a0), some (.int x1), none, none, none, none, none] moX7_findForm (Nat.le_of_ble_eq_true rfl) rfl ?_
  have hrx1 := j_rng x1
  have he : jeff [.inl 21] V0 V0 := jeff.refl _ _
  obtain ⟨fs_a0, hO_a0, hK_a0⟩ := WT_obj hW id ha0
  have hF_v5 := hf_v5.get hO_a0
  have hrv5 : 0 ≤ v5.toInt ∧ v5.toInt ≤ 120 := jok_rngI hK_a0 rfl hF_v5
  refine Jz_iconst 0 dX7_findForm_0 (by decide) (fun y0 he0 => ?_)
  refine J_istore_n dX7_findForm_1 rfl (by decide) ?_
  have L2 : ∀ (N : Nat) (V : jH) (i2n2 : Int32), WT V → jeff [.inl 21] V0 V → (jis V (.inr 5) a0) → (V a0 = some (.inr (5, fs_a0))) → (jokO V (jFs 5) fs_a0) → (0 ≤ i2n2.toInt) → (300 - i2n2.toInt).toNat < N → J tS mX7_findForm d 2 [some (.ref a0), some (.int x1), some (.int i2n2), none, none, none, none] [] V 0 0 (jPost [.inl 21] V0 rV) := by
    intro N
    induction N with
    | zero => intro V i2n2 hW he ha0 hO_a0 hK_a0 hi2 hm; exact absurd hm (Nat.not_lt_zero _)
    | succ N ih =>
      intro V i2n2 hW he ha0 hO_a0 hK_a0 hi2 hm
      have ih2 := ih
      have hri2 := j_rng i2n2
      refine J_iload_n dX7_findForm_2 rfl ?_
      refine J_aload_n dX7_findForm_3 rfl ?_
      refine J_get jf_X7_109 dX7_findForm_4 hO_a0 hF_v5 ?_
      refine Jz_icmp_ge (tgt := 28) jEq.rf jEq.rf dX7_findForm_7 (by decide) (fun c7 => ?_) (fun c7 => ?_)
      · refine Jz_iconst 0 dX7_findForm_28 (by decide) (fun y28 he28 => ?_)
        refine J_istore_n dX7_findForm_29 rfl (by decide) ?_
        have L30 : ∀ (N : Nat) (V : jH) (i2n30 : Int32), WT V → jeff [.inl 21] V0 V → (jis V (.inr 5) a0) → (V a0 = some (.inr (5, fs_a0))) → (jokO V (jFs 5) fs_a0) → (0 ≤ i2n30.toInt) → (300 - i2n30.toInt).toNat < N → J tS mX7_findForm d 30 [some (.ref a0), some (.int x1), some (.int i2n30), none, none, none, none] [] V 0 0 (jPost [.inl 21] V0 rV) := by
          intro N
          induction N with
          | zero => intro V i2n30 hW he ha0 hO_a0 hK_a0 hi2 hm; exact absurd hm (Nat.not_lt_zero _)
          | succ N ih =>
            intro V i2n30 hW he ha0 hO_a0 hK_a0 hi2 hm
            have ih30 := ih
            have hri2 := j_rng i2n30
            refine J_iload_n dX7_findForm_30 rfl ?_
            refine Jz_iconst 2 dX7_findForm_31 (by decide) (fun y31 he31 => ?_)
            refine J_iload_n dX7_findForm_32 rfl ?_
            refine J_callS1 moX7_turns jw_ml_X7_143 jw_st_X7_turns dX7_findForm_33 (w_X7_turns (d - 1) _ x1 (by omega)   ) (by omega) (Nat.zero_le _) (Nat.zero_le _) (Nat.le_of_ble_eq_true rfl) (fun r33 V33 h33 => ?_)
            obtain ⟨⟨y33, rfl, hl33, hh33, hP33_0⟩, hE33⟩ := h33
            have hE33 := hE33.symm
            subst hE33
            have hz33 : jEq y33.toInt (jtur (x1.toInt)) := hP33_0
            simp only [hP33_0] at hl33 hh33
            clear hP33_0
            refine Jz_imul he31 hz33 dX7_findForm_36 (by omega) (by omega) (fun y36 he36 => ?_)
            refine Jz_icmp_ge (tgt := 167) jEq.rf he36 dX7_findForm_37 (by decide) (fun c37 => ?_) (fun c37 => ?_)
            · exact J_ret (r := none) dX7_findForm_167 ⟨rfl, rfl⟩ (⟨hW, he, rfl⟩)
            · refine J_iload_n dX7_findForm_40 rfl ?_
              refine Jz_iconst 2 dX7_findForm_41 (by decide) (fun y41 he41 => ?_)
              refine Jz_idivw he41 dX7_findForm_42 (by omega) (fun y42  => ?_)
              refine J_istore_n dX7_findForm_43 rfl (by decide) ?_
              refine J_iload_n dX7_findForm_44 rfl ?_
              refine Jz_iconst 2 dX7_findForm_45 (by decide) (fun y45 he45 => ?_)
              refine Jz_iremw he45 dX7_findForm_46 (by omega) (fun y46  => ?_)
              refine Jz_iconst 1 dX7_findForm_47 (by decide) (fun y47 he47 => ?_)
              refine Jz_icmp_ne (tgt := 55) jEq.rf he47 dX7_findForm_48 (by decide) (fun c48 => ?_) (fun c48 => ?_)
              · refine Jz_iconst 0 dX7_findForm_55 (by decide) (fun y55 he55 => ?_)
                refine J_istore dX7_findForm_56 rfl (by decide) ?_
                refine Jz_iconst 0 dX7_findForm_58 (by decide) (fun y58 he58 => ?_)
                refine J_istore dX7_findForm_59 rfl (by decide) ?_
                have L61 : ∀ (N : Nat) (V : jH) (i5n61 : Int32), WT V → jeff [.inl 21] V0 V → (jis V (.inr 5) a0) → (V a0 = some (.inr (5, fs_a0))) → (jokO V (jFs 5) fs_a0) → (0 ≤ i5n61.toInt) → (300 - i5n61.toInt).toNat < N → J tS mX7_findForm d 61 [some (.ref a0), some (.int x1), some (.int i2n30), some (.int y42), some (.int y55), some (.int i5n61), none] [] V 0 0 (jPost [.inl 21] V0 rV) := by
                  intro N
                  induction N with
                  | zero => intro V i5n61 hW he ha0 hO_a0 hK_a0 hi5 hm; exact absurd hm (Nat.not_lt_zero _)
                  | succ N ih =>
                    intro V i5n61 hW he ha0 hO_a0 hK_a0 hi5 hm
                    have ih61 := ih
                    have hri5 := j_rng i5n61
                    refine J_iload dX7_findForm_61 rfl ?_
                    refine J_aload_n dX7_findForm_63 rfl ?_
                    refine J_get jf_X7_109 dX7_findForm_64 hO_a0 hF_v5 ?_
                    refine Jz_icmp_ge (tgt := 96) jEq.rf jEq.rf dX7_findForm_67 (by decide) (fun c67 => ?_) (fun c67 => ?_)
                    · refine J_iload dX7_findForm_96 rfl ?_
                      refine J_aload_n dX7_findForm_98 rfl ?_
                      refine J_get jf_X7_109 dX7_findForm_99 hO_a0 hF_v5 ?_
                      refine Jz_icmp_ge (tgt := 161) jEq.rf jEq.rf dX7_findForm_102 (by decide) (fun c102 => ?_) (fun c102 => ?_)
                      · refine Jz_iinc 1 dX7_findForm_161 rfl rfl (by decide) jEq.rf (by decide) (by omega) (by omega) (fun y161 he161 => ?_)
                        refine J_goto (tgt := 30) dX7_findForm_164 (by decide) ?_
                        refine J.mask [true, true, true, false, false, false, false] ?_
                        exact ih30 _ y161 hW he ha0 hO_a0 hK_a0 (by (try simp only [he161.eq, true_and, and_true]) <;> omega) (by (try simp only [he161.eq, true_and, and_true]) <;> omega)
                      · refine J_aload_n dX7_findForm_105 rfl ?_
                        refine J_iload_n dX7_findForm_106 rfl ?_
                        refine J_iload_n dX7_findForm_107 rfl ?_
                        refine J_iload dX7_findForm_108 rfl ?_
                        refine J_iload dX7_findForm_110 rfl ?_
                        refine Jw_callV4 (q9 := (RX7, TX7, 34)) moX7_tried jw_ml_X7_170 jw_im_X7_tried jw_se_X7_tried ha0 rfl rfl dX7_findForm_112 (w_X7_tried (d - 1) _ a0 x1 y42 y55 i5n61 v5 (by omega) hW  ha0 ⟨_, hO_a0, hF_v5⟩ (by omega) (by omega)) (by omega) (Nat.zero_le _) (Nat.zero_le _) (Nat.le_of_ble_eq_true rfl) (fun r112 V112 h112 => ?_)
                        obtain ⟨⟨y112, rfl, hl112, hh112⟩, hE112⟩ := h112
                        have hE112 := hE112.symm
                        subst hE112
                        clear hl112 hh112
                        refine J_aload_n dX7_findForm_115 rfl ?_
                        obtain ⟨w116, hF116, b116, rfl, hb116⟩ := hK_a0.2 9 (.inr (some (.inl 21))) rfl
                        refine J_get jf_X7_31 dX7_findForm_116 hO_a0 hF116 ?_
                        refine J_iload dX7_findForm_119 rfl ?_
                        obtain ⟨n121, f121, hA121, hN121, hM121, hv121⟩ := WT_arrI (r := (-2147483648, 2147483647)) hW id rfl hb116
                        obtain rfl := hM121 60 rfl
                        clear hN121 hM121
                        refine Jz_ialdw jEq.rf dX7_findForm_121 hA121 rfl (by omega) (by omega) (fun y121 => ?_)
                        refine Jz_icmp_ge (tgt := 161) jEq.rf jEq.rf dX7_findForm_122 (by decide) (fun c122 => ?_) (fun c122 => ?_)
                        · refine Jz_iinc 1 dX7_findForm_161 rfl rfl (by decide) jEq.rf (by decide) (by omega) (by omega) (fun y161 he161 => ?_)
                          refine J_goto (tgt := 30) dX7_findForm_164 (by decide) ?_
                          refine J.mask [true, true, true, false, false, false, false] ?_
                          exact ih30 _ y161 hW he ha0 hO_a0 hK_a0 (by (try simp only [he161.eq, true_and, and_true]) <;> omega) (by (try simp only [he161.eq, true_and, and_true]) <;> omega)
                        · refine J_iload dX7_findForm_125 rfl ?_
                          refine J_istore dX7_findForm_127 rfl (by decide) ?_
                          have L129 : ∀ (N : Nat) (V : jH) (i6n129 : Int32), WT V → jeff [.inl 21] V0 V → (jis V (.inr 5) a0) → (jis V (.inl 21) b116) → (V a0 = some (.inr (5, fs_a0))) → (jokO V (jFs 5) fs_a0) → (0 ≤ i6n129.toInt) → (300 - i6n129.toInt).toNat < N → J tS mX7_findForm d 129 [some (.ref a0), some (.int x1), some (.int i2n30), some (.int y42), some (.int y55), some (.int i5n61), some (.int i6n129)] [] V 0 0 (jPost [.inl 21] V0 rV) := by
                            intro N
                            induction N with
                            | zero => intro V i6n129 hW he ha0 hb116 hO_a0 hK_a0 hi6 hm; exact absurd hm (Nat.not_lt_zero _)
                            | succ N ih =>
                              intro V i6n129 hW he ha0 hb116 hO_a0 hK_a0 hi6 hm
                              have ih129 := ih
                              have hri6 := j_rng i6n129
                              refine J_iload dX7_findForm_129 rfl ?_
                              refine J_aload_n dX7_findForm_131 rfl ?_
                              refine J_get jf_X7_109 dX7_findForm_132 hO_a0 hF_v5 ?_
                              refine Jz_icmp_ge (tgt := 161) jEq.rf jEq.rf dX7_findForm_135 (by decide) (fun c135 => ?_) (fun c135 => ?_)
                              · refine Jz_iinc 1 dX7_findForm_161 rfl rfl (by decide) jEq.rf (by decide) (by omega) (by omega) (fun y161 he161 => ?_)
                                refine J_goto (tgt := 30) dX7_findForm_164 (by decide) ?_
                                refine J.mask [true, true, true, false, false, false, false] ?_
                                exact ih30 _ y161 hW he ha0 hO_a0 hK_a0 (by (try simp only [he161.eq, true_and, and_true]) <;> omega) (by (try simp only [he161.eq, true_and, and_true]) <;> omega)
                              · refine J_aload_n dX7_findForm_138 rfl ?_
                                refine J_get jf_X7_31 dX7_findForm_139 hO_a0 hF116 ?_
                                refine J_iload dX7_findForm_142 rfl ?_
                                refine J_aload_n dX7_findForm_144 rfl ?_
                                refine J_iload_n dX7_findForm_145 rfl ?_
                                refine J_iload_n dX7_findForm_146 rfl ?_
                                refine J_iload dX7_findForm_147 rfl ?_
                                refine J_iload dX7_findForm_149 rfl ?_
                                refine Jw_callV4 (q9 := (RX7, TX7, 34)) moX7_tried jw_ml_X7_170 jw_im_X7_tried jw_se_X7_tried ha0 rfl rfl dX7_findForm_151 (w_X7_tried (d - 1) _ a0 x1 y42 y55 i6n129 v5 (by omega) hW  ha0 ⟨_, hO_a0, hF_v5⟩ (by omega) (by omega)) (by omega) (Nat.zero_le _) (Nat.zero_le _) (Nat.le_of_ble_eq_true rfl) (fun r151 V151 h151 => ?_)
                                obtain ⟨⟨y151, rfl, hl151, hh151⟩, hE151⟩ := h151
                                have hE151 := hE151.symm
                                subst hE151
                                clear hl151 hh151
                                obtain ⟨n154, f154, hA154, hN154, hM154, hv154⟩ := WT_arrI (r := (-2147483648, 2147483647)) hW id rfl hb116
                                obtain rfl := hM154 60 rfl
                                clear hN154 hM154
                                refine Jz_iastw (r := ((-2147483648), 2147483647)) jEq.rf jEq.rf hW id dX7_findForm_154 hA154 rfl rfl (by omega) (by omega) (j_rng _).1 (j_rng _).2 (fun V154 hW hx154 => ?_)
                                have he := he.trans (hx154.sub (jsub_of rfl))
                                have ha0 := ha0.mono hx154.1
                                have hb116 := hb116.mono hx154.1
                                have hO_a0 := hx154.2 _ _ hO_a0 (jnot_of rfl)
                                have hK_a0 := hK_a0.mono hx154.1
                                refine Jz_iinc 1 dX7_findForm_155 rfl rfl (by decide) jEq.rf (by decide) (by omega) (by omega) (fun y155 he155 => ?_)
                                refine J_goto (tgt := 129) dX7_findForm_158 (by decide) ?_
                                refine J.mask [true, true, true, true, true, true, true] ?_
                                exact ih129 _ y155 hW he ha0 hb116 hO_a0 hK_a0 (by (try simp only [he155.eq, true_and, and_true]) <;> omega) (by (try simp only [he155.eq, true_and, and_true]) <;> omega)
                          refine J.mask [true, true, true, true, true, true, true] ?_
                          exact L129 _ _ i5n61 hW he ha0 hb116 hO_a0 hK_a0 (by omega) (Nat.lt_succ_self _)
                    · refine J_aload_n dX7_findForm_70 rfl ?_
                      refine J_iload_n dX7_findForm_71 rfl ?_
                      refine J_iload_n dX7_findForm_72 rfl ?_
                      refine J_iload dX7_findForm_73 rfl ?_
                      refine J_iload dX7_findForm_75 rfl ?_
                      refine Jw_callV4 (q9 := (RX7, TX7, 34)) moX7_tried jw_ml_X7_170 jw_im_X7_tried jw_se_X7_tried ha0 rfl rfl dX7_findForm_77 (w_X7_tried (d - 1) _ a0 x1 y42 y55 i5n61 v5 (by omega) hW  ha0 ⟨_, hO_a0, hF_v5⟩ (by omega) (by omega)) (by omega) (Nat.zero_le _) (Nat.zero_le _) (Nat.le_of_ble_eq_true rfl) (fun r77 V77 h77 => ?_)
                      obtain ⟨⟨y77, rfl, hl77, hh77⟩, hE77⟩ := h77
                      have hE77 := hE77.symm
                      subst hE77
                      clear hl77 hh77
                      refine J_aload_n dX7_findForm_80 rfl ?_
                      obtain ⟨w81, hF81, b81, rfl, hb81⟩ := hK_a0.2 9 (.inr (some (.inl 21))) rfl
                      refine J_get jf_X7_31 dX7_findForm_81 hO_a0 hF81 ?_
                      refine J_iload dX7_findForm_84 rfl ?_
                      obtain ⟨n86, f86, hA86, hN86, hM86, hv86⟩ := WT_arrI (r := (-2147483648, 2147483647)) hW id rfl hb81
                      obtain rfl := hM86 60 rfl
                      clear hN86 hM86
                      refine Jz_ialdw jEq.rf dX7_findForm_86 hA86 rfl (by omega) (by omega) (fun y86 => ?_)
                      refine Jz_icmp_ne (tgt := 96) jEq.rf jEq.rf dX7_findForm_87 (by decide) (fun c87 => ?_) (fun c87 => ?_)
                      · refine J_iload dX7_findForm_96 rfl ?_
                        refine J_aload_n dX7_findForm_98 rfl ?_
                        refine J_get jf_X7_109 dX7_findForm_99 hO_a0 hF_v5 ?_
                        refine Jz_icmp_ge (tgt := 161) jEq.rf jEq.rf dX7_findForm_102 (by decide) (fun c102 => ?_) (fun c102 => ?_)
                        · refine Jz_iinc 1 dX7_findForm_161 rfl rfl (by decide) jEq.rf (by decide) (by omega) (by omega) (fun y161 he161 => ?_)
                          refine J_goto (tgt := 30) dX7_findForm_164 (by decide) ?_
                          refine J.mask [true, true, true, false, false, false, false] ?_
                          exact ih30 _ y161 hW he ha0 hO_a0 hK_a0 (by (try simp only [he161.eq, true_and, and_true]) <;> omega) (by (try simp only [he161.eq, true_and, and_true]) <;> omega)
                        · refine J_aload_n dX7_findForm_105 rfl ?_
                          refine J_iload_n dX7_findForm_106 rfl ?_
                          refine J_iload_n dX7_findForm_107 rfl ?_
                          refine J_iload dX7_findForm_108 rfl ?_
                          refine J_iload dX7_findForm_110 rfl ?_
                          refine Jw_callV4 (q9 := (RX7, TX7, 34)) moX7_tried jw_ml_X7_170 jw_im_X7_tried jw_se_X7_tried ha0 rfl rfl dX7_findForm_112 (w_X7_tried (d - 1) _ a0 x1 y42 y55 i5n61 v5 (by omega) hW  ha0 ⟨_, hO_a0, hF_v5⟩ (by omega) (by omega)) (by omega) (Nat.zero_le _) (Nat.zero_le _) (Nat.le_of_ble_eq_true rfl) (fun r112 V112 h112 => ?_)
                          obtain ⟨⟨y112, rfl, hl112, hh112⟩, hE112⟩ := h112
                          have hE112 := hE112.symm
                          subst hE112
                          clear hl112 hh112
                          refine J_aload_n dX7_findForm_115 rfl ?_
                          refine J_get jf_X7_31 dX7_findForm_116 hO_a0 hF81 ?_
                          refine J_iload dX7_findForm_119 rfl ?_
                          refine Jz_ialdw jEq.rf dX7_findForm_121 hA86 rfl (by omega) (by omega) (fun y121 => ?_)
                          refine Jz_icmp_ge (tgt := 161) jEq.rf jEq.rf dX7_findForm_122 (by decide) (fun c122 => ?_) (fun c122 => ?_)
                          · refine Jz_iinc 1 dX7_findForm_161 rfl rfl (by decide) jEq.rf (by decide) (by omega) (by omega) (fun y161 he161 => ?_)
                            refine J_goto (tgt := 30) dX7_findForm_164 (by decide) ?_
                            refine J.mask [true, true, true, false, false, false, false] ?_
                            exact ih30 _ y161 hW he ha0 hO_a0 hK_a0 (by (try simp only [he161.eq, true_and, and_true]) <;> omega) (by (try simp only [he161.eq, true_and, and_true]) <;> omega)
                          · refine J_iload dX7_findForm_125 rfl ?_
                            refine J_istore dX7_findForm_127 rfl (by decide) ?_
                            have L129 : ∀ (N : Nat) (V : jH) (i6n129 : Int32), WT V → jeff [.inl 21] V0 V → (jis V (.inr 5) a0) → (jis V (.inl 21) b81) → (V a0 = some (.inr (5, fs_a0))) → (jokO V (jFs 5) fs_a0) → (0 ≤ i6n129.toInt) → (300 - i6n129.toInt).toNat < N → J tS mX7_findForm d 129 [some (.ref a0), some (.int x1), some (.int i2n30), some (.int y42), some (.int y55), some (.int i5n61), some (.int i6n129)] [] V 0 0 (jPost [.inl 21] V0 rV) := by
                              intro N
                              induction N with
                              | zero => intro V i6n129 hW he ha0 hb81 hO_a0 hK_a0 hi6 hm; exact absurd hm (Nat.not_lt_zero _)
                              | succ N ih =>
                                intro V i6n129 hW he ha0 hb81 hO_a0 hK_a0 hi6 hm
                                have ih129 := ih
                                have hri6 := j_rng i6n129
                                refine J_iload dX7_findForm_129 rfl ?_
                                refine J_aload_n dX7_findForm_131 rfl ?_
                                refine J_get jf_X7_109 dX7_findForm_132 hO_a0 hF_v5 ?_
                                refine Jz_icmp_ge (tgt := 161) jEq.rf jEq.rf dX7_findForm_135 (by decide) (fun c135 => ?_) (fun c135 => ?_)
                                · refine Jz_iinc 1 dX7_findForm_161 rfl rfl (by decide) jEq.rf (by decide) (by omega) (by omega) (fun y161 he161 => ?_)
                                  refine J_goto (tgt := 30) dX7_findForm_164 (by decide) ?_
                                  refine J.mask [true, true, true, false, false, false, false] ?_
                                  exact ih30 _ y161 hW he ha0 hO_a0 hK_a0 (by (try simp only [he161.eq, true_and, and_true]) <;> omega) (by (try simp only [he161.eq, true_and, and_true]) <;> omega)
                                · refine J_aload_n dX7_findForm_138 rfl ?_
                                  refine J_get jf_X7_31 dX7_findForm_139 hO_a0 hF81 ?_
                                  refine J_iload dX7_findForm_142 rfl ?_
                                  refine J_aload_n dX7_findForm_144 rfl ?_
                                  refine J_iload_n dX7_findForm_145 rfl ?_
                                  refine J_iload_n dX7_findForm_146 rfl ?_
                                  refine J_iload dX7_findForm_147 rfl ?_
                                  refine J_iload dX7_findForm_149 rfl ?_
                                  refine Jw_callV4 (q9 := (RX7, TX7, 34)) moX7_tried jw_ml_X7_170 jw_im_X7_tried jw_se_X7_tried ha0 rfl rfl dX7_findForm_151 (w_X7_tried (d - 1) _ a0 x1 y42 y55 i6n129 v5 (by omega) hW  ha0 ⟨_, hO_a0, hF_v5⟩ (by omega) (by omega)) (by omega) (Nat.zero_le _) (Nat.zero_le _) (Nat.le_of_ble_eq_true rfl) (fun r151 V151 h151 => ?_)
                                  obtain ⟨⟨y151, rfl, hl151, hh151⟩, hE151⟩ := h151
                                  have hE151 := hE151.symm
                                  subst hE151
                                  clear hl151 hh151
                                  obtain ⟨n154, f154, hA154, hN154, hM154, hv154⟩ := WT_arrI (r := (-2147483648, 2147483647)) hW id rfl hb81
                                  obtain rfl := hM154 60 rfl
                                  clear hN154 hM154
                                  refine Jz_iastw (r := ((-2147483648), 2147483647)) jEq.rf jEq.rf hW id dX7_findForm_154 hA154 rfl rfl (by omega) (by omega) (j_rng _).1 (j_rng _).2 (fun V154 hW hx154 => ?_)
                                  have he := he.trans (hx154.sub (jsub_of rfl))
                                  have ha0 := ha0.mono hx154.1
                                  have hb81 := hb81.mono hx154.1
                                  have hO_a0 := hx154.2 _ _ hO_a0 (jnot_of rfl)
                                  have hK_a0 := hK_a0.mono hx154.1
                                  refine Jz_iinc 1 dX7_findForm_155 rfl rfl (by decide) jEq.rf (by decide) (by omega) (by omega) (fun y155 he155 => ?_)
                                  refine J_goto (tgt := 129) dX7_findForm_158 (by decide) ?_
                                  refine J.mask [true, true, true, true, true, true, true] ?_
                                  exact ih129 _ y155 hW he ha0 hb81 hO_a0 hK_a0 (by (try simp only [he155.eq, true_and, and_true]) <;> omega) (by (try simp only [he155.eq, true_and, and_true]) <;> omega)
                            refine J.mask [true, true, true, true, true, true, true] ?_
                            exact L129 _ _ i5n61 hW he ha0 hb81 hO_a0 hK_a0 (by omega) (Nat.lt_succ_self _)
                      · refine Jz_iinc 1 dX7_findForm_90 rfl rfl (by decide) jEq.rf (by decide) (by omega) (by omega) (fun y90 he90 => ?_)
                        refine J_goto (tgt := 61) dX7_findForm_93 (by decide) ?_
                        refine J.mask [true, true, true, true, true, true, false] ?_
                        exact ih61 _ y90 hW he ha0 hO_a0 hK_a0 (by (try simp only [he90.eq, true_and, and_true]) <;> omega) (by (try simp only [he90.eq, true_and, and_true]) <;> omega)
                refine J.mask [true, true, true, true, true, true, false] ?_
                exact L61 _ _ y58 hW he ha0 hO_a0 hK_a0 (by (try simp only [he58.eq, true_and, and_true]) <;> omega) (Nat.lt_succ_self _)
              · refine Jz_iconst 1 dX7_findForm_51 (by decide) (fun y51 he51 => ?_)
                refine J_goto (tgt := 56) dX7_findForm_52 (by decide) ?_
                refine J_istore dX7_findForm_56 rfl (by decide) ?_
                refine Jz_iconst 0 dX7_findForm_58 (by decide) (fun y58 he58 => ?_)
                refine J_istore dX7_findForm_59 rfl (by decide) ?_
                have L61 : ∀ (N : Nat) (V : jH) (i5n61 : Int32), WT V → jeff [.inl 21] V0 V → (jis V (.inr 5) a0) → (V a0 = some (.inr (5, fs_a0))) → (jokO V (jFs 5) fs_a0) → (0 ≤ i5n61.toInt) → (300 - i5n61.toInt).toNat < N → J tS mX7_findForm d 61 [some (.ref a0), some (.int x1), some (.int i2n30), some (.int y42), some (.int y51), some (.int i5n61), none] [] V 0 0 (jPost [.inl 21] V0 rV) := by
                  intro N
                  induction N with
                  | zero => intro V i5n61 hW he ha0 hO_a0 hK_a0 hi5 hm; exact absurd hm (Nat.not_lt_zero _)
                  | succ N ih =>
                    intro V i5n61 hW he ha0 hO_a0 hK_a0 hi5 hm
                    have ih61 := ih
                    have hri5 := j_rng i5n61
                    refine J_iload dX7_findForm_61 rfl ?_
                    refine J_aload_n dX7_findForm_63 rfl ?_
                    refine J_get jf_X7_109 dX7_findForm_64 hO_a0 hF_v5 ?_
                    refine Jz_icmp_ge (tgt := 96) jEq.rf jEq.rf dX7_findForm_67 (by decide) (fun c67 => ?_) (fun c67 => ?_)
                    · refine J_iload dX7_findForm_96 rfl ?_
                      refine J_aload_n dX7_findForm_98 rfl ?_
                      refine J_get jf_X7_109 dX7_findForm_99 hO_a0 hF_v5 ?_
                      refine Jz_icmp_ge (tgt := 161) jEq.rf jEq.rf dX7_findForm_102 (by decide) (fun c102 => ?_) (fun c102 => ?_)
                      · refine Jz_iinc 1 dX7_findForm_161 rfl rfl (by decide) jEq.rf (by decide) (by omega) (by omega) (fun y161 he161 => ?_)
                        refine J_goto (tgt := 30) dX7_findForm_164 (by decide) ?_
                        refine J.mask [true, true, true, false, false, false, false] ?_
                        exact ih30 _ y161 hW he ha0 hO_a0 hK_a0 (by (try simp only [he161.eq, true_and, and_true]) <;> omega) (by (try simp only [he161.eq, true_and, and_true]) <;> omega)
                      · refine J_aload_n dX7_findForm_105 rfl ?_
                        refine J_iload_n dX7_findForm_106 rfl ?_
                        refine J_iload_n dX7_findForm_107 rfl ?_
                        refine J_iload dX7_findForm_108 rfl ?_
                        refine J_iload dX7_findForm_110 rfl ?_
                        refine Jw_callV4 (q9 := (RX7, TX7, 34)) moX7_tried jw_ml_X7_170 jw_im_X7_tried jw_se_X7_tried ha0 rfl rfl dX7_findForm_112 (w_X7_tried (d - 1) _ a0 x1 y42 y51 i5n61 v5 (by omega) hW  ha0 ⟨_, hO_a0, hF_v5⟩ (by omega) (by omega)) (by omega) (Nat.zero_le _) (Nat.zero_le _) (Nat.le_of_ble_eq_true rfl) (fun r112 V112 h112 => ?_)
                        obtain ⟨⟨y112, rfl, hl112, hh112⟩, hE112⟩ := h112
                        have hE112 := hE112.symm
                        subst hE112
                        clear hl112 hh112
                        refine J_aload_n dX7_findForm_115 rfl ?_
                        obtain ⟨w116, hF116, b116, rfl, hb116⟩ := hK_a0.2 9 (.inr (some (.inl 21))) rfl
                        refine J_get jf_X7_31 dX7_findForm_116 hO_a0 hF116 ?_
                        refine J_iload dX7_findForm_119 rfl ?_
                        obtain ⟨n121, f121, hA121, hN121, hM121, hv121⟩ := WT_arrI (r := (-2147483648, 2147483647)) hW id rfl hb116
                        obtain rfl := hM121 60 rfl
                        clear hN121 hM121
                        refine Jz_ialdw jEq.rf dX7_findForm_121 hA121 rfl (by omega) (by omega) (fun y121 => ?_)
                        refine Jz_icmp_ge (tgt := 161) jEq.rf jEq.rf dX7_findForm_122 (by decide) (fun c122 => ?_) (fun c122 => ?_)
                        · refine Jz_iinc 1 dX7_findForm_161 rfl rfl (by decide) jEq.rf (by decide) (by omega) (by omega) (fun y161 he161 => ?_)
                          refine J_goto (tgt := 30) dX7_findForm_164 (by decide) ?_
                          refine J.mask [true, true, true, false, false, false, false] ?_
                          exact ih30 _ y161 hW he ha0 hO_a0 hK_a0 (by (try simp only [he161.eq, true_and, and_true]) <;> omega) (by (try simp only [he161.eq, true_and, and_true]) <;> omega)
                        · refine J_iload dX7_findForm_125 rfl ?_
                          refine J_istore dX7_findForm_127 rfl (by decide) ?_
                          have L129 : ∀ (N : Nat) (V : jH) (i6n129 : Int32), WT V → jeff [.inl 21] V0 V → (jis V (.inr 5) a0) → (jis V (.inl 21) b116) → (V a0 = some (.inr (5, fs_a0))) → (jokO V (jFs 5) fs_a0) → (0 ≤ i6n129.toInt) → (300 - i6n129.toInt).toNat < N → J tS mX7_findForm d 129 [some (.ref a0), some (.int x1), some (.int i2n30), some (.int y42), some (.int y51), some (.int i5n61), some (.int i6n129)] [] V 0 0 (jPost [.inl 21] V0 rV) := by
                            intro N
                            induction N with
                            | zero => intro V i6n129 hW he ha0 hb116 hO_a0 hK_a0 hi6 hm; exact absurd hm (Nat.not_lt_zero _)
                            | succ N ih =>
                              intro V i6n129 hW he ha0 hb116 hO_a0 hK_a0 hi6 hm
                              have ih129 := ih
                              have hri6 := j_rng i6n129
                              refine J_iload dX7_findForm_129 rfl ?_
                              refine J_aload_n dX7_findForm_131 rfl ?_
                              refine J_get jf_X7_109 dX7_findForm_132 hO_a0 hF_v5 ?_
                              refine Jz_icmp_ge (tgt := 161) jEq.rf jEq.rf dX7_findForm_135 (by decide) (fun c135 => ?_) (fun c135 => ?_)
                              · refine Jz_iinc 1 dX7_findForm_161 rfl rfl (by decide) jEq.rf (by decide) (by omega) (by omega) (fun y161 he161 => ?_)
                                refine J_goto (tgt := 30) dX7_findForm_164 (by decide) ?_
                                refine J.mask [true, true, true, false, false, false, false] ?_
                                exact ih30 _ y161 hW he ha0 hO_a0 hK_a0 (by (try simp only [he161.eq, true_and, and_true]) <;> omega) (by (try simp only [he161.eq, true_and, and_true]) <;> omega)
                              · refine J_aload_n dX7_findForm_138 rfl ?_
                                refine J_get jf_X7_31 dX7_findForm_139 hO_a0 hF116 ?_
                                refine J_iload dX7_findForm_142 rfl ?_
                                refine J_aload_n dX7_findForm_144 rfl ?_
                                refine J_iload_n dX7_findForm_145 rfl ?_
                                refine J_iload_n dX7_findForm_146 rfl ?_
                                refine J_iload dX7_findForm_147 rfl ?_
                                refine J_iload dX7_findForm_149 rfl ?_
                                refine Jw_callV4 (q9 := (RX7, TX7, 34)) moX7_tried jw_ml_X7_170 jw_im_X7_tried jw_se_X7_tried ha0 rfl rfl dX7_findForm_151 (w_X7_tried (d - 1) _ a0 x1 y42 y51 i6n129 v5 (by omega) hW  ha0 ⟨_, hO_a0, hF_v5⟩ (by omega) (by omega)) (by omega) (Nat.zero_le _) (Nat.zero_le _) (Nat.le_of_ble_eq_true rfl) (fun r151 V151 h151 => ?_)
                                obtain ⟨⟨y151, rfl, hl151, hh151⟩, hE151⟩ := h151
                                have hE151 := hE151.symm
                                subst hE151
                                clear hl151 hh151
                                obtain ⟨n154, f154, hA154, hN154, hM154, hv154⟩ := WT_arrI (r := (-2147483648, 2147483647)) hW id rfl hb116
                                obtain rfl := hM154 60 rfl
                                clear hN154 hM154
                                refine Jz_iastw (r := ((-2147483648), 2147483647)) jEq.rf jEq.rf hW id dX7_findForm_154 hA154 rfl rfl (by omega) (by omega) (j_rng _).1 (j_rng _).2 (fun V154 hW hx154 => ?_)
                                have he := he.trans (hx154.sub (jsub_of rfl))
                                have ha0 := ha0.mono hx154.1
                                have hb116 := hb116.mono hx154.1
                                have hO_a0 := hx154.2 _ _ hO_a0 (jnot_of rfl)
                                have hK_a0 := hK_a0.mono hx154.1
                                refine Jz_iinc 1 dX7_findForm_155 rfl rfl (by decide) jEq.rf (by decide) (by omega) (by omega) (fun y155 he155 => ?_)
                                refine J_goto (tgt := 129) dX7_findForm_158 (by decide) ?_
                                refine J.mask [true, true, true, true, true, true, true] ?_
                                exact ih129 _ y155 hW he ha0 hb116 hO_a0 hK_a0 (by (try simp only [he155.eq, true_and, and_true]) <;> omega) (by (try simp only [he155.eq, true_and, and_true]) <;> omega)
                          refine J.mask [true, true, true, true, true, true, true] ?_
                          exact L129 _ _ i5n61 hW he ha0 hb116 hO_a0 hK_a0 (by omega) (Nat.lt_succ_self _)
                    · refine J_aload_n dX7_findForm_70 rfl ?_
                      refine J_iload_n dX7_findForm_71 rfl ?_
                      refine J_iload_n dX7_findForm_72 rfl ?_
                      refine J_iload dX7_findForm_73 rfl ?_
                      refine J_iload dX7_findForm_75 rfl ?_
                      refine Jw_callV4 (q9 := (RX7, TX7, 34)) moX7_tried jw_ml_X7_170 jw_im_X7_tried jw_se_X7_tried ha0 rfl rfl dX7_findForm_77 (w_X7_tried (d - 1) _ a0 x1 y42 y51 i5n61 v5 (by omega) hW  ha0 ⟨_, hO_a0, hF_v5⟩ (by omega) (by omega)) (by omega) (Nat.zero_le _) (Nat.zero_le _) (Nat.le_of_ble_eq_true rfl) (fun r77 V77 h77 => ?_)
                      obtain ⟨⟨y77, rfl, hl77, hh77⟩, hE77⟩ := h77
                      have hE77 := hE77.symm
                      subst hE77
                      clear hl77 hh77
                      refine J_aload_n dX7_findForm_80 rfl ?_
                      obtain ⟨w81, hF81, b81, rfl, hb81⟩ := hK_a0.2 9 (.inr (some (.inl 21))) rfl
                      refine J_get jf_X7_31 dX7_findForm_81 hO_a0 hF81 ?_
                      refine J_iload dX7_findForm_84 rfl ?_
                      obtain ⟨n86, f86, hA86, hN86, hM86, hv86⟩ := WT_arrI (r := (-2147483648, 2147483647)) hW id rfl hb81
                      obtain rfl := hM86 60 rfl
                      clear hN86 hM86
                      refine Jz_ialdw jEq.rf dX7_findForm_86 hA86 rfl (by omega) (by omega) (fun y86 => ?_)
                      refine Jz_icmp_ne (tgt := 96) jEq.rf jEq.rf dX7_findForm_87 (by decide) (fun c87 => ?_) (fun c87 => ?_)
                      · refine J_iload dX7_findForm_96 rfl ?_
                        refine J_aload_n dX7_findForm_98 rfl ?_
                        refine J_get jf_X7_109 dX7_findForm_99 hO_a0 hF_v5 ?_
                        refine Jz_icmp_ge (tgt := 161) jEq.rf jEq.rf dX7_findForm_102 (by decide) (fun c102 => ?_) (fun c102 => ?_)
                        · refine Jz_iinc 1 dX7_findForm_161 rfl rfl (by decide) jEq.rf (by decide) (by omega) (by omega) (fun y161 he161 => ?_)
                          refine J_goto (tgt := 30) dX7_findForm_164 (by decide) ?_
                          refine J.mask [true, true, true, false, false, false, false] ?_
                          exact ih30 _ y161 hW he ha0 hO_a0 hK_a0 (by (try simp only [he161.eq, true_and, and_true]) <;> omega) (by (try simp only [he161.eq, true_and, and_true]) <;> omega)
                        · refine J_aload_n dX7_findForm_105 rfl ?_
                          refine J_iload_n dX7_findForm_106 rfl ?_
                          refine J_iload_n dX7_findForm_107 rfl ?_
                          refine J_iload dX7_findForm_108 rfl ?_
                          refine J_iload dX7_findForm_110 rfl ?_
                          refine Jw_callV4 (q9 := (RX7, TX7, 34)) moX7_tried jw_ml_X7_170 jw_im_X7_tried jw_se_X7_tried ha0 rfl rfl dX7_findForm_112 (w_X7_tried (d - 1) _ a0 x1 y42 y51 i5n61 v5 (by omega) hW  ha0 ⟨_, hO_a0, hF_v5⟩ (by omega) (by omega)) (by omega) (Nat.zero_le _) (Nat.zero_le _) (Nat.le_of_ble_eq_true rfl) (fun r112 V112 h112 => ?_)
                          obtain ⟨⟨y112, rfl, hl112, hh112⟩, hE112⟩ := h112
                          have hE112 := hE112.symm
                          subst hE112
                          clear hl112 hh112
                          refine J_aload_n dX7_findForm_115 rfl ?_
                          refine J_get jf_X7_31 dX7_findForm_116 hO_a0 hF81 ?_
                          refine J_iload dX7_findForm_119 rfl ?_
                          refine Jz_ialdw jEq.rf dX7_findForm_121 hA86 rfl (by omega) (by omega) (fun y121 => ?_)
                          refine Jz_icmp_ge (tgt := 161) jEq.rf jEq.rf dX7_findForm_122 (by decide) (fun c122 => ?_) (fun c122 => ?_)
                          · refine Jz_iinc 1 dX7_findForm_161 rfl rfl (by decide) jEq.rf (by decide) (by omega) (by omega) (fun y161 he161 => ?_)
                            refine J_goto (tgt := 30) dX7_findForm_164 (by decide) ?_
                            refine J.mask [true, true, true, false, false, false, false] ?_
                            exact ih30 _ y161 hW he ha0 hO_a0 hK_a0 (by (try simp only [he161.eq, true_and, and_true]) <;> omega) (by (try simp only [he161.eq, true_and, and_true]) <;> omega)
                          · refine J_iload dX7_findForm_125 rfl ?_
                            refine J_istore dX7_findForm_127 rfl (by decide) ?_
                            have L129 : ∀ (N : Nat) (V : jH) (i6n129 : Int32), WT V → jeff [.inl 21] V0 V → (jis V (.inr 5) a0) → (jis V (.inl 21) b81) → (V a0 = some (.inr (5, fs_a0))) → (jokO V (jFs 5) fs_a0) → (0 ≤ i6n129.toInt) → (300 - i6n129.toInt).toNat < N → J tS mX7_findForm d 129 [some (.ref a0), some (.int x1), some (.int i2n30), some (.int y42), some (.int y51), some (.int i5n61), some (.int i6n129)] [] V 0 0 (jPost [.inl 21] V0 rV) := by
                              intro N
                              induction N with
                              | zero => intro V i6n129 hW he ha0 hb81 hO_a0 hK_a0 hi6 hm; exact absurd hm (Nat.not_lt_zero _)
                              | succ N ih =>
                                intro V i6n129 hW he ha0 hb81 hO_a0 hK_a0 hi6 hm
                                have ih129 := ih
                                have hri6 := j_rng i6n129
                                refine J_iload dX7_findForm_129 rfl ?_
                                refine J_aload_n dX7_findForm_131 rfl ?_
                                refine J_get jf_X7_109 dX7_findForm_132 hO_a0 hF_v5 ?_
                                refine Jz_icmp_ge (tgt := 161) jEq.rf jEq.rf dX7_findForm_135 (by decide) (fun c135 => ?_) (fun c135 => ?_)
                                · refine Jz_iinc 1 dX7_findForm_161 rfl rfl (by decide) jEq.rf (by decide) (by omega) (by omega) (fun y161 he161 => ?_)
                                  refine J_goto (tgt := 30) dX7_findForm_164 (by decide) ?_
                                  refine J.mask [true, true, true, false, false, false, false] ?_
                                  exact ih30 _ y161 hW he ha0 hO_a0 hK_a0 (by (try simp only [he161.eq, true_and, and_true]) <;> omega) (by (try simp only [he161.eq, true_and, and_true]) <;> omega)
                                · refine J_aload_n dX7_findForm_138 rfl ?_
                                  refine J_get jf_X7_31 dX7_findForm_139 hO_a0 hF81 ?_
                                  refine J_iload dX7_findForm_142 rfl ?_
                                  refine J_aload_n dX7_findForm_144 rfl ?_
                                  refine J_iload_n dX7_findForm_145 rfl ?_
                                  refine J_iload_n dX7_findForm_146 rfl ?_
                                  refine J_iload dX7_findForm_147 rfl ?_
                                  refine J_iload dX7_findForm_149 rfl ?_
                                  refine Jw_callV4 (q9 := (RX7, TX7, 34)) moX7_tried jw_ml_X7_170 jw_im_X7_tried jw_se_X7_tried ha0 rfl rfl dX7_findForm_151 (w_X7_tried (d - 1) _ a0 x1 y42 y51 i6n129 v5 (by omega) hW  ha0 ⟨_, hO_a0, hF_v5⟩ (by omega) (by omega)) (by omega) (Nat.zero_le _) (Nat.zero_le _) (Nat.le_of_ble_eq_true rfl) (fun r151 V151 h151 => ?_)
                                  obtain ⟨⟨y151, rfl, hl151, hh151⟩, hE151⟩ := h151
                                  have hE151 := hE151.symm
                                  subst hE151
                                  clear hl151 hh151
                                  obtain ⟨n154, f154, hA154, hN154, hM154, hv154⟩ := WT_arrI (r := (-2147483648, 2147483647)) hW id rfl hb81
                                  obtain rfl := hM154 60 rfl
                                  clear hN154 hM154
                                  refine Jz_iastw (r := ((-2147483648), 2147483647)) jEq.rf jEq.rf hW id dX7_findForm_154 hA154 rfl rfl (by omega) (by omega) (j_rng _).1 (j_rng _).2 (fun V154 hW hx154 => ?_)
                                  have he := he.trans (hx154.sub (jsub_of rfl))
                                  have ha0 := ha0.mono hx154.1
                                  have hb81 := hb81.mono hx154.1
                                  have hO_a0 := hx154.2 _ _ hO_a0 (jnot_of rfl)
                                  have hK_a0 := hK_a0.mono hx154.1
                                  refine Jz_iinc 1 dX7_findForm_155 rfl rfl (by decide) jEq.rf (by decide) (by omega) (by omega) (fun y155 he155 => ?_)
                                  refine J_goto (tgt := 129) dX7_findForm_158 (by decide) ?_
                                  refine J.mask [true, true, true, true, true, true, true] ?_
                                  exact ih129 _ y155 hW he ha0 hb81 hO_a0 hK_a0 (by (try simp only [he155.eq, true_and, and_true]) <;> omega) (by (try simp only [he155.eq, true_and, and_true]) <;> omega)
                            refine J.mask [true, true, true, true, true, true, true] ?_
                            exact L129 _ _ i5n61 hW he ha0 hb81 hO_a0 hK_a0 (by omega) (Nat.lt_succ_self _)
                      · refine Jz_iinc 1 dX7_findForm_90 rfl rfl (by decide) jEq.rf (by decide) (by omega) (by omega) (fun y90 he90 => ?_)
                        refine J_goto (tgt := 61) dX7_findForm_93 (by decide) ?_
                        refine J.mask [true, true, true, true, true, true, false] ?_
                        exact ih61 _ y90 hW he ha0 hO_a0 hK_a0 (by (try simp only [he90.eq, true_and, and_true]) <;> omega) (by (try simp only [he90.eq, true_and, and_true]) <;> omega)
                refine J.mask [true, true, true, true, true, true, false] ?_
                exact L61 _ _ y58 hW he ha0 hO_a0 hK_a0 (by (try simp only [he58.eq, true_and, and_true]) <;> omega) (Nat.lt_succ_self _)
        refine J.mask [true, true, true, false, false, false, false] ?_
        exact L30 _ _ y28 hW he ha0 hO_a0 hK_a0 (by (try simp only [he28.eq, true_and, and_true]) <;> omega) (Nat.lt_succ_self _)
      · refine J_aload_n dX7_findForm_10 rfl ?_
        obtain ⟨w11, hF11, b11, rfl, hb11⟩ := hK_a0.2 9 (.inr (some (.inl 21))) rfl
        refine J_get jf_X7_31 dX7_findForm_11 hO_a0 hF11 ?_
        refine J_iload_n dX7_findForm_14 rfl ?_
        refine J_aload_n dX7_findForm_15 rfl ?_
        obtain ⟨w16, hF16, b16, rfl, hb16⟩ := hK_a0.2 4 (.inr (some (.inl 17))) rfl
        refine J_get jf_X7_19 dX7_findForm_16 hO_a0 hF16 ?_
        refine J_iload_n dX7_findForm_19 rfl ?_
        obtain ⟨n20, f20, hA20, hN20, hM20, hv20⟩ := WT_arrI (r := (-2147483648, 2147483647)) hW id rfl hb16
        obtain rfl := hM20 120 rfl
        clear hN20 hM20
        refine Jz_ialdw jEq.rf dX7_findForm_20 hA20 rfl (by omega) (by omega) (fun y20 => ?_)
        obtain ⟨n21, f21, hA21, hN21, hM21, hv21⟩ := WT_arrI (r := (-2147483648, 2147483647)) hW id rfl hb11
        obtain rfl := hM21 60 rfl
        clear hN21 hM21
        refine Jz_iastw (r := ((-2147483648), 2147483647)) jEq.rf jEq.rf hW id dX7_findForm_21 hA21 rfl rfl (by omega) (by omega) (j_rng _).1 (j_rng _).2 (fun V21 hW hx21 => ?_)
        have he := he.trans (hx21.sub (jsub_of rfl))
        have ha0 := ha0.mono hx21.1
        have hb11 := hb11.mono hx21.1
        have hb16 := hb16.mono hx21.1
        have hO_a0 := hx21.2 _ _ hO_a0 (jnot_of rfl)
        have hK_a0 := hK_a0.mono hx21.1
        have hA20 := hx21.2 _ _ hA20 (jnot_of rfl)
        refine Jz_iinc 1 dX7_findForm_22 rfl rfl (by decide) jEq.rf (by decide) (by omega) (by omega) (fun y22 he22 => ?_)
        refine J_goto (tgt := 2) dX7_findForm_25 (by decide) ?_
        refine J.mask [true, true, true, false, false, false, false] ?_
        exact ih2 _ y22 hW he ha0 hO_a0 hK_a0 (by (try simp only [he22.eq, true_and, and_true]) <;> omega) (by (try simp only [he22.eq, true_and, and_true]) <;> omega)
  refine J.mask [true, true, true, false, false, false, false] ?_
  exact L2 _ _ y0 hW he ha0 hO_a0 hK_a0 (by (try simp only [he0.eq, true_and, and_true]) <;> omega) (Nat.lt_succ_self _)
set_option maxRecDepth 100000 in
set_option maxHeartbeats 8000000 in
theorem w_X7_form {tS : jTS} (d : Nat) (V0 : jH) (a0 : Nat) (x1 : Int32) (x2 : Int32) (hd : 4 ≤ d) (hW : WT V0) (ha0 : jis V0 (.inr 5) a0) : jTot tS mX7_form d [.ref a0, .int x1, .int x2] V0 0 0 (fun r V => (jPost [.inr 5, .inl 17, .inl 21] V0 (fun r _ => ∃ y : Int32, r = some (.int y) ∧ ((-2147483648) ≤ y.toInt) ∧ (y.toInt ≤ 2147483647))) r V ∧ jkc 5 [0, 23, 24] V0 V) := by
  refine jTot.of_J [some (.ref a0), some (.int x1), some (.int x2)] moX7_form (Nat.le_of_ble_eq_true rfl) rfl ?_
  have hrx1 := j_rng x1
  have hrx2 := j_rng x2
  have he : jeff [.inr 5, .inl 17, .inl 21] V0 V0 := jeff.refl _ _
  have hkp : jkc 5 [0, 23, 24] V0 V0 := jkc.rf
  refine J_aload_n dX7_form_0 rfl ?_
  refine J_iload_n dX7_form_1 rfl ?_
  refine Jw_callV1 (q9 := (RX7, TX7, 34)) moX7_isWalk jw_ml_X7_130 jw_im_X7_isWalk jw_se_X7_isWalk ha0 rfl rfl dX7_form_2 (w_X7_isWalk (d - 1) _ a0 x1 (by omega) hW  ha0) (by omega) (Nat.zero_le _) (Nat.zero_le _) (Nat.le_of_ble_eq_true rfl) (fun r2 V2 h2 => ?_)
  obtain ⟨⟨y2, rfl, hl2, hh2, hI2_0⟩, hE2⟩ := h2
  have hE2 := hE2.symm
  subst hE2
  refine Jz_if_ne (tgt := 11) jEq.rf dX7_form_5 (by decide) (fun c5 => ?_) (fun c5 => ?_)
  · have q5_0 := hI2_0.of (by omega)
    refine J_aload_n dX7_form_11 rfl ?_
    refine J_iload_n dX7_form_12 rfl ?_
    refine Jw_callV1 (q9 := (RX7, TX7, 34)) moX7_brings jw_ml_X7_137 jw_im_X7_brings jw_se_X7_brings ha0 rfl rfl dX7_form_13 (w_X7_brings (d - 1) _ a0 x1 (by omega) hW  ha0 (by omega) (by omega)) (by omega) (Nat.zero_le _) (Nat.zero_le _) (Nat.le_of_ble_eq_true rfl) (fun r13 V13 h13 => ?_)
    obtain ⟨h13, hX13_0, ⟨fv13_0, hfv13_0, hfp13_0⟩⟩ := h13
    obtain ⟨hW, hx13, hr13⟩ := h13
    have he := he.trans (hx13.sub (jsub_of rfl))
    have hkp := hkp.trans hX13_0
    have ha0 := ha0.mono hx13.1
    cases hr13
    obtain ⟨fs13o, hO13o, hK13o⟩ := WT_obj hW id ha0
    have hFv13_0 := hfv13_0.get hO13o
    refine J_aload_n dX7_form_16 rfl ?_
    refine J_aload_n dX7_form_17 rfl ?_
    obtain ⟨w18, hF18, b18, rfl, hb18⟩ := hK13o.2 1 (.inr (some (.inl 14))) rfl
    refine J_get jf_X7_7 dX7_form_18 hO13o hF18 ?_
    refine J_iload_n dX7_form_21 rfl ?_
    obtain ⟨n22, f22, hA22, hN22, hM22, hv22⟩ := WT_arrI (r := (0, 3)) hW id rfl hb18
    obtain rfl := hM22 16 rfl
    clear hN22 hM22
    refine Jz_ialdr (r := (0, 3)) jEq.rf dX7_form_22 hA22 rfl hv22 (by omega) (by omega) (fun y22 hl22 hh22 => ?_)
    dsimp only at hl22 hh22
    refine Jw_callV1 (q9 := (RX7, TX7, 34)) moX7_findForm jw_ml_X7_174 jw_im_X7_findForm jw_se_X7_findForm ha0 rfl rfl dX7_form_23 (w_X7_findForm (d - 1) _ a0 y22 fv13_0 (by omega) hW  ha0 ⟨_, hO13o, hFv13_0⟩ (by omega)) (by omega) (Nat.zero_le _) (Nat.zero_le _) (Nat.le_of_ble_eq_true rfl) (fun r23 V23 h23 => ?_)
    obtain ⟨hW, hx23, hr23⟩ := h23
    have he := he.trans (hx23.sub (jsub_of rfl))
    have hkp := hkp.trans (jkc.of hx23 (jnot_of rfl))
    have ha0 := ha0.mono hx23.1
    have hb18 := hb18.mono hx23.1
    have hO13o := hx23.2 _ _ hO13o (jnot_of rfl)
    have hK13o := hK13o.mono hx23.1
    have hA22 := hx23.2 _ _ hA22 (jnot_of rfl)
    cases hr23
    refine J_iload_n dX7_form_26 rfl ?_
    refine Jz_iconst 0 dX7_form_27 (by decide) (fun y27 he27 => ?_)
    refine J_aload_n dX7_form_28 rfl ?_
    refine J_get jf_X7_109 dX7_form_29 hO13o hFv13_0 ?_
    refine Jz_iconst 1 dX7_form_32 (by decide) (fun y32 he32 => ?_)
    refine Jz_isub jEq.rf he32 dX7_form_33 (by omega) (by omega) (fun y33 he33 => ?_)
    refine J_callS3 moX7_in jw_ml_X7_105 jw_st_X7_in dX7_form_34 (w_X7_in (d - 1) _ x2 y27 y33 (by omega)   ) (by omega) (Nat.zero_le _) (Nat.zero_le _) (Nat.le_of_ble_eq_true rfl) (fun r34 V34 h34 => ?_)
    obtain ⟨⟨y34, rfl, hl34, hh34, hI34_0, hI34_1⟩, hE34⟩ := h34
    have hE34 := hE34.symm
    subst hE34
    refine Jz_if_eq (tgt := 49) jEq.rf dX7_form_37 (by decide) (fun c37 => ?_) (fun c37 => ?_)
    · have q37_1 := hI34_1.of (by omega)
      try simp only [he27.eq, he33.eq] at q37_1
      refine Jz_iconst (-1) dX7_form_49 (by decide) (fun y49 he49 => ?_)
      exact J_ret (r := some (.int _)) dX7_form_50 ⟨rfl, _, rfl, rfl⟩ (⟨⟨hW, he, ⟨_, rfl, (j_rng _).1, (j_rng _).2⟩⟩, hkp⟩)
    · have q37_0 := hI34_0.of (by omega)
      try simp only [he27.eq, he33.eq] at q37_0
      refine J_aload_n dX7_form_40 rfl ?_
      obtain ⟨w41, hF41, b41, rfl, hb41⟩ := hK13o.2 9 (.inr (some (.inl 21))) rfl
      refine J_get jf_X7_31 dX7_form_41 hO13o hF41 ?_
      refine J_iload_n dX7_form_44 rfl ?_
      obtain ⟨n45, f45, hA45, hN45, hM45, hv45⟩ := WT_arrI (r := (-2147483648, 2147483647)) hW id rfl hb41
      obtain rfl := hM45 60 rfl
      clear hN45 hM45
      refine Jz_ialdw jEq.rf dX7_form_45 hA45 rfl (by omega) (by omega) (fun y45 => ?_)
      refine J_goto (tgt := 50) dX7_form_46 (by decide) ?_
      exact J_ret (r := some (.int _)) dX7_form_50 ⟨rfl, _, rfl, rfl⟩ (⟨⟨hW, he, ⟨_, rfl, (j_rng _).1, (j_rng _).2⟩⟩, hkp⟩)
  · refine Jz_bipush (-2) dX7_form_8 (by decide) (fun y8 he8 => ?_)
    exact J_ret (r := some (.int _)) dX7_form_10 ⟨rfl, _, rfl, rfl⟩ (⟨⟨hW, he, ⟨_, rfl, (j_rng _).1, (j_rng _).2⟩⟩, hkp⟩)
set_option maxRecDepth 100000 in
set_option maxHeartbeats 8000000 in
theorem w_X7_alike {tS : jTS} (d : Nat) (V0 : jH) (a0 : Nat) (x1 : Int32) (x2 : Int32) (hd : 4 ≤ d) (hW : WT V0) (ha0 : jis V0 (.inr 5) a0) : jTot tS mX7_alike d [.ref a0, .int x1, .int x2] V0 0 0 (fun r V => (jPost [.inr 5, .inl 17, .inl 21, .inl 22] V0 (fun r _ => ∃ y : Int32, r = some (.int y) ∧ ((-2147483648) ≤ y.toInt) ∧ (y.toInt ≤ 2147483647))) r V ∧ jkc 5 [0, 23, 24] V0 V) := by
  refine jTot.of_J [some (.ref a0), some (.int x1), some (.int x2), none, none, none] moX7_alike (Nat.le_of_ble_eq_true rfl) rfl ?_
  have hrx1 := j_rng x1
  have hrx2 := j_rng x2
  have he : jeff [.inr 5, .inl 17, .inl 21, .inl 22] V0 V0 := jeff.refl _ _
  have hkp : jkc 5 [0, 23, 24] V0 V0 := jkc.rf
  refine J_aload_n dX7_alike_0 rfl ?_
  refine J_iload_n dX7_alike_1 rfl ?_
  refine Jw_callV1 (q9 := (RX7, TX7, 34)) moX7_isWalk jw_ml_X7_130 jw_im_X7_isWalk jw_se_X7_isWalk ha0 rfl rfl dX7_alike_2 (w_X7_isWalk (d - 1) _ a0 x1 (by omega) hW  ha0) (by omega) (Nat.zero_le _) (Nat.zero_le _) (Nat.le_of_ble_eq_true rfl) (fun r2 V2 h2 => ?_)
  obtain ⟨⟨y2, rfl, hl2, hh2, hI2_0⟩, hE2⟩ := h2
  have hE2 := hE2.symm
  subst hE2
  refine Jz_if_eq (tgt := 16) jEq.rf dX7_alike_5 (by decide) (fun c5 => ?_) (fun c5 => ?_)
  · refine Jz_bipush (-2) dX7_alike_16 (by decide) (fun y16 he16 => ?_)
    exact J_ret (r := some (.int _)) dX7_alike_18 ⟨rfl, _, rfl, rfl⟩ (⟨⟨hW, he, ⟨_, rfl, (j_rng _).1, (j_rng _).2⟩⟩, hkp⟩)
  · have q5_0 := hI2_0.of (by omega)
    refine J_aload_n dX7_alike_8 rfl ?_
    refine J_iload_n dX7_alike_9 rfl ?_
    refine Jw_callV1 (q9 := (RX7, TX7, 34)) moX7_isWalk jw_ml_X7_130 jw_im_X7_isWalk jw_se_X7_isWalk ha0 rfl rfl dX7_alike_10 (w_X7_isWalk (d - 1) _ a0 x2 (by omega) hW  ha0) (by omega) (Nat.zero_le _) (Nat.zero_le _) (Nat.le_of_ble_eq_true rfl) (fun r10 V10 h10 => ?_)
    obtain ⟨⟨y10, rfl, hl10, hh10, hI10_0⟩, hE10⟩ := h10
    have hE10 := hE10.symm
    subst hE10
    refine Jz_if_ne (tgt := 19) jEq.rf dX7_alike_13 (by decide) (fun c13 => ?_) (fun c13 => ?_)
    · have q13_0 := hI10_0.of (by omega)
      refine J_aload_n dX7_alike_19 rfl ?_
      obtain ⟨fs20, hO20, hK20⟩ := WT_obj hW id ha0
      obtain ⟨w20, hF20, b20, rfl, hb20⟩ := hK20.2 1 (.inr (some (.inl 14))) rfl
      refine J_get jf_X7_7 dX7_alike_20 hO20 hF20 ?_
      refine J_iload_n dX7_alike_23 rfl ?_
      obtain ⟨n24, f24, hA24, hN24, hM24, hv24⟩ := WT_arrI (r := (0, 3)) hW id rfl hb20
      obtain rfl := hM24 16 rfl
      clear hN24 hM24
      refine Jz_ialdr (r := (0, 3)) jEq.rf dX7_alike_24 hA24 rfl hv24 (by omega) (by omega) (fun y24 hl24 hh24 => ?_)
      dsimp only at hl24 hh24
      refine J_aload_n dX7_alike_25 rfl ?_
      refine J_get jf_X7_7 dX7_alike_26 hO20 hF20 ?_
      refine J_iload_n dX7_alike_29 rfl ?_
      refine Jz_ialdr (r := (0, 3)) jEq.rf dX7_alike_30 hA24 rfl hv24 (by omega) (by omega) (fun y30 hl30 hh30 => ?_)
      dsimp only at hl30 hh30
      refine Jz_icmp_eq (tgt := 37) jEq.rf jEq.rf dX7_alike_31 (by decide) (fun c31 => ?_) (fun c31 => ?_)
      · refine J_aload_n dX7_alike_37 rfl ?_
        refine J_iload_n dX7_alike_38 rfl ?_
        refine Jw_callV1 (q9 := (RX7, TX7, 34)) moX7_brings jw_ml_X7_137 jw_im_X7_brings jw_se_X7_brings ha0 rfl rfl dX7_alike_39 (w_X7_brings (d - 1) _ a0 x2 (by omega) hW  ha0 (by omega) (by omega)) (by omega) (Nat.zero_le _) (Nat.zero_le _) (Nat.le_of_ble_eq_true rfl) (fun r39 V39 h39 => ?_)
        obtain ⟨h39, hX39_0, ⟨fv39_0, hfv39_0, hfp39_0⟩⟩ := h39
        obtain ⟨hW, hx39, hr39⟩ := h39
        have he := he.trans (hx39.sub (jsub_of rfl))
        have hkp := hkp.trans hX39_0
        have ha0 := ha0.mono hx39.1
        have hb20 := hb20.mono hx39.1
        obtain ⟨fs39a0, hOfs39a0, hRfs39a0⟩ := hx39.1.keep hO20
        have hKfs39a0 : jokO _ (jFs 5) fs39a0 := hW _ _ id hOfs39a0
        have hFfs39a0_1 := hRfs39a0 _ _ hF20
        have hA24 := hx39.2 _ _ hA24 (jnot_of rfl)
        cases hr39
        have hFv39_0 := hfv39_0.get hOfs39a0
        refine J_aload_n dX7_alike_42 rfl ?_
        refine J_aload_n dX7_alike_43 rfl ?_
        refine J_get jf_X7_7 dX7_alike_44 hOfs39a0 hFfs39a0_1 ?_
        refine J_iload_n dX7_alike_47 rfl ?_
        refine Jz_ialdr (r := (0, 3)) jEq.rf dX7_alike_48 hA24 rfl hv24 (by omega) (by omega) (fun y48 hl48 hh48 => ?_)
        dsimp only at hl48 hh48
        refine Jw_callV1 (q9 := (RX7, TX7, 34)) moX7_findForm jw_ml_X7_174 jw_im_X7_findForm jw_se_X7_findForm ha0 rfl rfl dX7_alike_49 (w_X7_findForm (d - 1) _ a0 y48 fv39_0 (by omega) hW  ha0 ⟨_, hOfs39a0, hFv39_0⟩ (by omega)) (by omega) (Nat.zero_le _) (Nat.zero_le _) (Nat.le_of_ble_eq_true rfl) (fun r49 V49 h49 => ?_)
        obtain ⟨hW, hx49, hr49⟩ := h49
        have he := he.trans (hx49.sub (jsub_of rfl))
        have hkp := hkp.trans (jkc.of hx49 (jnot_of rfl))
        have ha0 := ha0.mono hx49.1
        have hb20 := hb20.mono hx49.1
        have hOfs39a0 := hx49.2 _ _ hOfs39a0 (jnot_of rfl)
        have hKfs39a0 := hKfs39a0.mono hx49.1
        have hA24 := hx49.2 _ _ hA24 (jnot_of rfl)
        cases hr49
        refine J_aload_n dX7_alike_52 rfl ?_
        refine J_get jf_X7_109 dX7_alike_53 hOfs39a0 hFv39_0 ?_
        refine J_istore_n dX7_alike_56 rfl (by decide) ?_
        refine Jz_iconst 0 dX7_alike_57 (by decide) (fun y57 he57 => ?_)
        refine J_istore dX7_alike_58 rfl (by decide) ?_
        have L60 : ∀ (N : Nat) (V : jH) (i4n60 : Int32), WT V → jeff [.inr 5, .inl 17, .inl 21, .inl 22] V0 V → (jis V (.inr 5) a0) → (jis V (.inl 14) b20) → (jkc 5 [0, 23, 24] V0 V) → (V a0 = some (.inr (5, fs39a0))) → (jokO V (jFs 5) fs39a0) → (0 ≤ i4n60.toInt) → (300 - i4n60.toInt).toNat < N → J tS mX7_alike d 60 [some (.ref a0), some (.int x1), some (.int x2), some (.int fv39_0), some (.int i4n60), none] [] V 0 0 (fun r V => (jPost [.inr 5, .inl 17, .inl 21, .inl 22] V0 (fun r _ => ∃ y : Int32, r = some (.int y) ∧ ((-2147483648) ≤ y.toInt) ∧ (y.toInt ≤ 2147483647))) r V ∧ jkc 5 [0, 23, 24] V0 V) := by
          intro N
          induction N with
          | zero => intro V i4n60 hW he ha0 hb20 hkp hOfs39a0 hKfs39a0 hi4 hm; exact absurd hm (Nat.not_lt_zero _)
          | succ N ih =>
            intro V i4n60 hW he ha0 hb20 hkp hOfs39a0 hKfs39a0 hi4 hm
            have ih60 := ih
            have hri4 := j_rng i4n60
            refine J_iload dX7_alike_60 rfl ?_
            refine J_iload_n dX7_alike_62 rfl ?_
            refine Jz_icmp_ge (tgt := 86) jEq.rf jEq.rf dX7_alike_63 (by decide) (fun c63 => ?_) (fun c63 => ?_)
            · refine J_aload_n dX7_alike_86 rfl ?_
              refine J_iload_n dX7_alike_87 rfl ?_
              refine Jw_callV1 (q9 := (RX7, TX7, 34)) moX7_brings jw_ml_X7_137 jw_im_X7_brings jw_se_X7_brings ha0 rfl rfl dX7_alike_88 (w_X7_brings (d - 1) _ a0 x1 (by omega) hW  ha0 (by omega) (by omega)) (by omega) (Nat.zero_le _) (Nat.zero_le _) (Nat.le_of_ble_eq_true rfl) (fun r88 V88 h88 => ?_)
              obtain ⟨h88, hX88_0, ⟨fv88_0, hfv88_0, hfp88_0⟩⟩ := h88
              obtain ⟨hW, hx88, hr88⟩ := h88
              have he := he.trans (hx88.sub (jsub_of rfl))
              have hkp := hkp.trans hX88_0
              have ha0 := ha0.mono hx88.1
              have hb20 := hb20.mono hx88.1
              obtain ⟨fs88a0, hOfs88a0, hRfs88a0⟩ := hx88.1.keep hOfs39a0
              have hKfs88a0 : jokO _ (jFs 5) fs88a0 := hW _ _ id hOfs88a0
              have hFfs88a0_1 := hRfs88a0 _ _ hFfs39a0_1
              cases hr88
              have hFv88_0 := hfv88_0.get hOfs88a0
              refine J_aload_n dX7_alike_91 rfl ?_
              refine J_aload_n dX7_alike_92 rfl ?_
              refine J_get jf_X7_7 dX7_alike_93 hOfs88a0 hFfs88a0_1 ?_
              refine J_iload_n dX7_alike_96 rfl ?_
              obtain ⟨n97, f97, hA97, hN97, hM97, hv97⟩ := WT_arrI (r := (0, 3)) hW id rfl hb20
              obtain rfl := hM97 16 rfl
              clear hN97 hM97
              refine Jz_ialdr (r := (0, 3)) jEq.rf dX7_alike_97 hA97 rfl hv97 (by omega) (by omega) (fun y97 hl97 hh97 => ?_)
              dsimp only at hl97 hh97
              refine Jw_callV1 (q9 := (RX7, TX7, 34)) moX7_findForm jw_ml_X7_174 jw_im_X7_findForm jw_se_X7_findForm ha0 rfl rfl dX7_alike_98 (w_X7_findForm (d - 1) _ a0 y97 fv88_0 (by omega) hW  ha0 ⟨_, hOfs88a0, hFv88_0⟩ (by omega)) (by omega) (Nat.zero_le _) (Nat.zero_le _) (Nat.le_of_ble_eq_true rfl) (fun r98 V98 h98 => ?_)
              obtain ⟨hW, hx98, hr98⟩ := h98
              have he := he.trans (hx98.sub (jsub_of rfl))
              have hkp := hkp.trans (jkc.of hx98 (jnot_of rfl))
              have ha0 := ha0.mono hx98.1
              have hb20 := hb20.mono hx98.1
              have hOfs88a0 := hx98.2 _ _ hOfs88a0 (jnot_of rfl)
              have hKfs88a0 := hKfs88a0.mono hx98.1
              have hA97 := hx98.2 _ _ hA97 (jnot_of rfl)
              cases hr98
              refine J_iload_n dX7_alike_101 rfl ?_
              refine J_aload_n dX7_alike_102 rfl ?_
              refine J_get jf_X7_109 dX7_alike_103 hOfs88a0 hFv88_0 ?_
              refine Jz_icmp_ne (tgt := 113) jEq.rf jEq.rf dX7_alike_106 (by decide) (fun c106 => ?_) (fun c106 => ?_)
              · refine Jz_iconst 0 dX7_alike_113 (by decide) (fun y113 he113 => ?_)
                refine J_istore dX7_alike_114 rfl (by decide) ?_
                refine Jz_iconst 0 dX7_alike_116 (by decide) (fun y116 he116 => ?_)
                refine J_istore dX7_alike_117 rfl (by decide) ?_
                have L119 : ∀ (N : Nat) (V : jH) (i4n119 : Int32) (i5n119 : Int32), WT V → jeff [.inr 5, .inl 17, .inl 21, .inl 22] V0 V → (jis V (.inr 5) a0) → (jis V (.inl 14) b20) → (jkc 5 [0, 23, 24] V0 V) → (V a0 = some (.inr (5, fs88a0))) → (jokO V (jFs 5) fs88a0) → (0 ≤ i5n119.toInt) → (0 ≤ i4n119.toInt ∧ i4n119.toInt ≤ 1) → (300 - i5n119.toInt).toNat < N → J tS mX7_alike d 119 [some (.ref a0), some (.int x1), some (.int x2), some (.int fv39_0), some (.int i4n119), some (.int i5n119)] [] V 0 0 (fun r V => (jPost [.inr 5, .inl 17, .inl 21, .inl 22] V0 (fun r _ => ∃ y : Int32, r = some (.int y) ∧ ((-2147483648) ≤ y.toInt) ∧ (y.toInt ≤ 2147483647))) r V ∧ jkc 5 [0, 23, 24] V0 V) := by
                  intro N
                  induction N with
                  | zero => intro V i4n119 i5n119 hW he ha0 hb20 hkp hOfs88a0 hKfs88a0 hi5 hb4 hm; exact absurd hm (Nat.not_lt_zero _)
                  | succ N ih =>
                    intro V i4n119 i5n119 hW he ha0 hb20 hkp hOfs88a0 hKfs88a0 hi5 hb4 hm
                    have ih119 := ih
                    have hri5 := j_rng i5n119
                    refine J_iload dX7_alike_119 rfl ?_
                    refine J_iload_n dX7_alike_121 rfl ?_
                    refine Jz_icmp_ge (tgt := 160) jEq.rf jEq.rf dX7_alike_122 (by decide) (fun c122 => ?_) (fun c122 => ?_)
                    · refine J_iload dX7_alike_160 rfl ?_
                      refine Jz_if_eq (tgt := 169) jEq.rf dX7_alike_162 (by decide) (fun c162 => ?_) (fun c162 => ?_)
                      · refine Jz_iconst 0 dX7_alike_169 (by decide) (fun y169 he169 => ?_)
                        exact J_ret (r := some (.int _)) dX7_alike_170 ⟨rfl, _, rfl, rfl⟩ (⟨⟨hW, he, ⟨_, rfl, (j_rng _).1, (j_rng _).2⟩⟩, hkp⟩)
                      · refine Jz_iconst 1 dX7_alike_165 (by decide) (fun y165 he165 => ?_)
                        refine J_goto (tgt := 170) dX7_alike_166 (by decide) ?_
                        exact J_ret (r := some (.int _)) dX7_alike_170 ⟨rfl, _, rfl, rfl⟩ (⟨⟨hW, he, ⟨_, rfl, (j_rng _).1, (j_rng _).2⟩⟩, hkp⟩)
                    · refine J_iload dX7_alike_125 rfl ?_
                      refine Jz_if_eq (tgt := 160) jEq.rf dX7_alike_127 (by decide) (fun c127 => ?_) (fun c127 => ?_)
                      · refine J_iload dX7_alike_160 rfl ?_
                        refine Jz_if_eq (tgt := 169) jEq.rf dX7_alike_162 (by decide) (fun c162 => ?_) (fun c162 => ?_)
                        · refine Jz_iconst 0 dX7_alike_169 (by decide) (fun y169 he169 => ?_)
                          exact J_ret (r := some (.int _)) dX7_alike_170 ⟨rfl, _, rfl, rfl⟩ (⟨⟨hW, he, ⟨_, rfl, (j_rng _).1, (j_rng _).2⟩⟩, hkp⟩)
                        · refine Jz_iconst 1 dX7_alike_165 (by decide) (fun y165 he165 => ?_)
                          refine J_goto (tgt := 170) dX7_alike_166 (by decide) ?_
                          exact J_ret (r := some (.int _)) dX7_alike_170 ⟨rfl, _, rfl, rfl⟩ (⟨⟨hW, he, ⟨_, rfl, (j_rng _).1, (j_rng _).2⟩⟩, hkp⟩)
                      · refine J_aload_n dX7_alike_130 rfl ?_
                        obtain ⟨w131, hF131, b131, rfl, hb131⟩ := hKfs88a0.2 9 (.inr (some (.inl 21))) rfl
                        refine J_get jf_X7_31 dX7_alike_131 hOfs88a0 hF131 ?_
                        refine J_iload dX7_alike_134 rfl ?_
                        obtain ⟨n136, f136, hA136, hN136, hM136, hv136⟩ := WT_arrI (r := (-2147483648, 2147483647)) hW id rfl hb131
                        obtain rfl := hM136 60 rfl
                        clear hN136 hM136
                        refine Jz_ialdw jEq.rf dX7_alike_136 hA136 rfl (by omega) (by omega) (fun y136 => ?_)
                        refine J_aload_n dX7_alike_137 rfl ?_
                        obtain ⟨w138, hF138, b138, rfl, hb138⟩ := hKfs88a0.2 10 (.inr (some (.inl 22))) rfl
                        refine J_get jf_X7_34 dX7_alike_138 hOfs88a0 hF138 ?_
                        refine J_iload dX7_alike_141 rfl ?_
                        obtain ⟨n143, f143, hA143, hN143, hM143, hv143⟩ := WT_arrI (r := (-2147483648, 2147483647)) hW id rfl hb138
                        obtain rfl := hM143 60 rfl
                        clear hN143 hM143
                        refine Jz_ialdw jEq.rf dX7_alike_143 hA143 rfl (by omega) (by omega) (fun y143 => ?_)
                        refine Jz_icmp_ne (tgt := 151) jEq.rf jEq.rf dX7_alike_144 (by decide) (fun c144 => ?_) (fun c144 => ?_)
                        · refine Jz_iconst 0 dX7_alike_151 (by decide) (fun y151 he151 => ?_)
                          refine J_istore dX7_alike_152 rfl (by decide) ?_
                          refine Jz_iinc 1 dX7_alike_154 rfl rfl (by decide) jEq.rf (by decide) (by omega) (by omega) (fun y154 he154 => ?_)
                          refine J_goto (tgt := 119) dX7_alike_157 (by decide) ?_
                          refine J.mask [true, true, true, true, true, true] ?_
                          exact ih119 _ y151 y154 hW he ha0 hb20 hkp hOfs88a0 hKfs88a0 (by (try simp only [he151.eq, he154.eq, true_and, and_true]) <;> omega) (by (try simp only [he151.eq, he154.eq, true_and, and_true]) <;> omega) (by (try simp only [he151.eq, he154.eq, true_and, and_true]) <;> omega)
                        · refine Jz_iconst 1 dX7_alike_147 (by decide) (fun y147 he147 => ?_)
                          refine J_goto (tgt := 152) dX7_alike_148 (by decide) ?_
                          refine J_istore dX7_alike_152 rfl (by decide) ?_
                          refine Jz_iinc 1 dX7_alike_154 rfl rfl (by decide) jEq.rf (by decide) (by omega) (by omega) (fun y154 he154 => ?_)
                          refine J_goto (tgt := 119) dX7_alike_157 (by decide) ?_
                          refine J.mask [true, true, true, true, true, true] ?_
                          exact ih119 _ y147 y154 hW he ha0 hb20 hkp hOfs88a0 hKfs88a0 (by (try simp only [he147.eq, he154.eq, true_and, and_true]) <;> omega) (by (try simp only [he147.eq, he154.eq, true_and, and_true]) <;> omega) (by (try simp only [he147.eq, he154.eq, true_and, and_true]) <;> omega)
                refine J.mask [true, true, true, true, true, true] ?_
                exact L119 _ _ y113 y116 hW he ha0 hb20 hkp hOfs88a0 hKfs88a0 (by (try simp only [he113.eq, he116.eq, true_and, and_true]) <;> omega) (by (try simp only [he113.eq, he116.eq, true_and, and_true]) <;> omega) (Nat.lt_succ_self _)
              · refine Jz_iconst 1 dX7_alike_109 (by decide) (fun y109 he109 => ?_)
                refine J_goto (tgt := 114) dX7_alike_110 (by decide) ?_
                refine J_istore dX7_alike_114 rfl (by decide) ?_
                refine Jz_iconst 0 dX7_alike_116 (by decide) (fun y116 he116 => ?_)
                refine J_istore dX7_alike_117 rfl (by decide) ?_
                have L119 : ∀ (N : Nat) (V : jH) (i4n119 : Int32) (i5n119 : Int32), WT V → jeff [.inr 5, .inl 17, .inl 21, .inl 22] V0 V → (jis V (.inr 5) a0) → (jis V (.inl 14) b20) → (jkc 5 [0, 23, 24] V0 V) → (V a0 = some (.inr (5, fs88a0))) → (jokO V (jFs 5) fs88a0) → (0 ≤ i5n119.toInt) → (0 ≤ i4n119.toInt ∧ i4n119.toInt ≤ 1) → (300 - i5n119.toInt).toNat < N → J tS mX7_alike d 119 [some (.ref a0), some (.int x1), some (.int x2), some (.int fv39_0), some (.int i4n119), some (.int i5n119)] [] V 0 0 (fun r V => (jPost [.inr 5, .inl 17, .inl 21, .inl 22] V0 (fun r _ => ∃ y : Int32, r = some (.int y) ∧ ((-2147483648) ≤ y.toInt) ∧ (y.toInt ≤ 2147483647))) r V ∧ jkc 5 [0, 23, 24] V0 V) := by
                  intro N
                  induction N with
                  | zero => intro V i4n119 i5n119 hW he ha0 hb20 hkp hOfs88a0 hKfs88a0 hi5 hb4 hm; exact absurd hm (Nat.not_lt_zero _)
                  | succ N ih =>
                    intro V i4n119 i5n119 hW he ha0 hb20 hkp hOfs88a0 hKfs88a0 hi5 hb4 hm
                    have ih119 := ih
                    have hri5 := j_rng i5n119
                    refine J_iload dX7_alike_119 rfl ?_
                    refine J_iload_n dX7_alike_121 rfl ?_
                    refine Jz_icmp_ge (tgt := 160) jEq.rf jEq.rf dX7_alike_122 (by decide) (fun c122 => ?_) (fun c122 => ?_)
                    · refine J_iload dX7_alike_160 rfl ?_
                      refine Jz_if_eq (tgt := 169) jEq.rf dX7_alike_162 (by decide) (fun c162 => ?_) (fun c162 => ?_)
                      · refine Jz_iconst 0 dX7_alike_169 (by decide) (fun y169 he169 => ?_)
                        exact J_ret (r := some (.int _)) dX7_alike_170 ⟨rfl, _, rfl, rfl⟩ (⟨⟨hW, he, ⟨_, rfl, (j_rng _).1, (j_rng _).2⟩⟩, hkp⟩)
                      · refine Jz_iconst 1 dX7_alike_165 (by decide) (fun y165 he165 => ?_)
                        refine J_goto (tgt := 170) dX7_alike_166 (by decide) ?_
                        exact J_ret (r := some (.int _)) dX7_alike_170 ⟨rfl, _, rfl, rfl⟩ (⟨⟨hW, he, ⟨_, rfl, (j_rng _).1, (j_rng _).2⟩⟩, hkp⟩)
                    · refine J_iload dX7_alike_125 rfl ?_
                      refine Jz_if_eq (tgt := 160) jEq.rf dX7_alike_127 (by decide) (fun c127 => ?_) (fun c127 => ?_)
                      · refine J_iload dX7_alike_160 rfl ?_
                        refine Jz_if_eq (tgt := 169) jEq.rf dX7_alike_162 (by decide) (fun c162 => ?_) (fun c162 => ?_)
                        · refine Jz_iconst 0 dX7_alike_169 (by decide) (fun y169 he169 => ?_)
                          exact J_ret (r := some (.int _)) dX7_alike_170 ⟨rfl, _, rfl, rfl⟩ (⟨⟨hW, he, ⟨_, rfl, (j_rng _).1, (j_rng _).2⟩⟩, hkp⟩)
                        · refine Jz_iconst 1 dX7_alike_165 (by decide) (fun y165 he165 => ?_)
                          refine J_goto (tgt := 170) dX7_alike_166 (by decide) ?_
                          exact J_ret (r := some (.int _)) dX7_alike_170 ⟨rfl, _, rfl, rfl⟩ (⟨⟨hW, he, ⟨_, rfl, (j_rng _).1, (j_rng _).2⟩⟩, hkp⟩)
                      · refine J_aload_n dX7_alike_130 rfl ?_
                        obtain ⟨w131, hF131, b131, rfl, hb131⟩ := hKfs88a0.2 9 (.inr (some (.inl 21))) rfl
                        refine J_get jf_X7_31 dX7_alike_131 hOfs88a0 hF131 ?_
                        refine J_iload dX7_alike_134 rfl ?_
                        obtain ⟨n136, f136, hA136, hN136, hM136, hv136⟩ := WT_arrI (r := (-2147483648, 2147483647)) hW id rfl hb131
                        obtain rfl := hM136 60 rfl
                        clear hN136 hM136
                        refine Jz_ialdw jEq.rf dX7_alike_136 hA136 rfl (by omega) (by omega) (fun y136 => ?_)
                        refine J_aload_n dX7_alike_137 rfl ?_
                        obtain ⟨w138, hF138, b138, rfl, hb138⟩ := hKfs88a0.2 10 (.inr (some (.inl 22))) rfl
                        refine J_get jf_X7_34 dX7_alike_138 hOfs88a0 hF138 ?_
                        refine J_iload dX7_alike_141 rfl ?_
                        obtain ⟨n143, f143, hA143, hN143, hM143, hv143⟩ := WT_arrI (r := (-2147483648, 2147483647)) hW id rfl hb138
                        obtain rfl := hM143 60 rfl
                        clear hN143 hM143
                        refine Jz_ialdw jEq.rf dX7_alike_143 hA143 rfl (by omega) (by omega) (fun y143 => ?_)
                        refine Jz_icmp_ne (tgt := 151) jEq.rf jEq.rf dX7_alike_144 (by decide) (fun c144 => ?_) (fun c144 => ?_)
                        · refine Jz_iconst 0 dX7_alike_151 (by decide) (fun y151 he151 => ?_)
                          refine J_istore dX7_alike_152 rfl (by decide) ?_
                          refine Jz_iinc 1 dX7_alike_154 rfl rfl (by decide) jEq.rf (by decide) (by omega) (by omega) (fun y154 he154 => ?_)
                          refine J_goto (tgt := 119) dX7_alike_157 (by decide) ?_
                          refine J.mask [true, true, true, true, true, true] ?_
                          exact ih119 _ y151 y154 hW he ha0 hb20 hkp hOfs88a0 hKfs88a0 (by (try simp only [he151.eq, he154.eq, true_and, and_true]) <;> omega) (by (try simp only [he151.eq, he154.eq, true_and, and_true]) <;> omega) (by (try simp only [he151.eq, he154.eq, true_and, and_true]) <;> omega)
                        · refine Jz_iconst 1 dX7_alike_147 (by decide) (fun y147 he147 => ?_)
                          refine J_goto (tgt := 152) dX7_alike_148 (by decide) ?_
                          refine J_istore dX7_alike_152 rfl (by decide) ?_
                          refine Jz_iinc 1 dX7_alike_154 rfl rfl (by decide) jEq.rf (by decide) (by omega) (by omega) (fun y154 he154 => ?_)
                          refine J_goto (tgt := 119) dX7_alike_157 (by decide) ?_
                          refine J.mask [true, true, true, true, true, true] ?_
                          exact ih119 _ y147 y154 hW he ha0 hb20 hkp hOfs88a0 hKfs88a0 (by (try simp only [he147.eq, he154.eq, true_and, and_true]) <;> omega) (by (try simp only [he147.eq, he154.eq, true_and, and_true]) <;> omega) (by (try simp only [he147.eq, he154.eq, true_and, and_true]) <;> omega)
                refine J.mask [true, true, true, true, true, true] ?_
                exact L119 _ _ y109 y116 hW he ha0 hb20 hkp hOfs88a0 hKfs88a0 (by (try simp only [he109.eq, he116.eq, true_and, and_true]) <;> omega) (by (try simp only [he109.eq, he116.eq, true_and, and_true]) <;> omega) (Nat.lt_succ_self _)
            · refine J_aload_n dX7_alike_66 rfl ?_
              obtain ⟨w67, hF67, b67, rfl, hb67⟩ := hKfs39a0.2 10 (.inr (some (.inl 22))) rfl
              refine J_get jf_X7_34 dX7_alike_67 hOfs39a0 hF67 ?_
              refine J_iload dX7_alike_70 rfl ?_
              refine J_aload_n dX7_alike_72 rfl ?_
              obtain ⟨w73, hF73, b73, rfl, hb73⟩ := hKfs39a0.2 9 (.inr (some (.inl 21))) rfl
              refine J_get jf_X7_31 dX7_alike_73 hOfs39a0 hF73 ?_
              refine J_iload dX7_alike_76 rfl ?_
              obtain ⟨n78, f78, hA78, hN78, hM78, hv78⟩ := WT_arrI (r := (-2147483648, 2147483647)) hW id rfl hb73
              obtain rfl := hM78 60 rfl
              clear hN78 hM78
              refine Jz_ialdw jEq.rf dX7_alike_78 hA78 rfl (by omega) (by omega) (fun y78 => ?_)
              obtain ⟨n79, f79, hA79, hN79, hM79, hv79⟩ := WT_arrI (r := (-2147483648, 2147483647)) hW id rfl hb67
              obtain rfl := hM79 60 rfl
              clear hN79 hM79
              refine Jz_iastw (r := ((-2147483648), 2147483647)) jEq.rf jEq.rf hW id dX7_alike_79 hA79 rfl rfl (by omega) (by omega) (j_rng _).1 (j_rng _).2 (fun V79 hW hx79 => ?_)
              have he := he.trans (hx79.sub (jsub_of rfl))
              have hkp := hkp.trans (jkc.of hx79 (jnot_of rfl))
              have ha0 := ha0.mono hx79.1
              have hb20 := hb20.mono hx79.1
              have hb67 := hb67.mono hx79.1
              have hb73 := hb73.mono hx79.1
              have hOfs39a0 := hx79.2 _ _ hOfs39a0 (jnot_of rfl)
              have hKfs39a0 := hKfs39a0.mono hx79.1
              have hA78 := hx79.2 _ _ hA78 (jnot_of rfl)
              refine Jz_iinc 1 dX7_alike_80 rfl rfl (by decide) jEq.rf (by decide) (by omega) (by omega) (fun y80 he80 => ?_)
              refine J_goto (tgt := 60) dX7_alike_83 (by decide) ?_
              refine J.mask [true, true, true, true, true, false] ?_
              exact ih60 _ y80 hW he ha0 hb20 hkp hOfs39a0 hKfs39a0 (by (try simp only [he80.eq, true_and, and_true]) <;> omega) (by (try simp only [he80.eq, true_and, and_true]) <;> omega)
        refine J.mask [true, true, true, true, true, false] ?_
        exact L60 _ _ y57 hW he ha0 hb20 hkp hOfs39a0 hKfs39a0 (by (try simp only [he57.eq, true_and, and_true]) <;> omega) (Nat.lt_succ_self _)
      · refine Jz_bipush (-3) dX7_alike_34 (by decide) (fun y34 he34 => ?_)
        exact J_ret (r := some (.int _)) dX7_alike_36 ⟨rfl, _, rfl, rfl⟩ (⟨⟨hW, he, ⟨_, rfl, (j_rng _).1, (j_rng _).2⟩⟩, hkp⟩)
    · refine Jz_bipush (-2) dX7_alike_16 (by decide) (fun y16 he16 => ?_)
      exact J_ret (r := some (.int _)) dX7_alike_18 ⟨rfl, _, rfl, rfl⟩ (⟨⟨hW, he, ⟨_, rfl, (j_rng _).1, (j_rng _).2⟩⟩, hkp⟩)
set_option maxRecDepth 100000 in
set_option maxHeartbeats 8000000 in
theorem w_X7_isGround {tS : jTS} (d : Nat) (V0 : jH) (x0 : Int32) (hd : 1 ≤ d)   : jTot tS mX7_isGround d [.int x0] V0 0 0 (fun r V => (fun r _ => ∃ y : Int32, r = some (.int y) ∧ (0 ≤ y.toInt) ∧ (y.toInt ≤ 1) ∧ (jIf y 1 (0 ≤ x0.toInt ∧ x0.toInt ≤ 3))) r V ∧ V = V0) := by
  refine jTot.of_J [some (.int x0)] moX7_isGround (Nat.le_of_ble_eq_true rfl) rfl ?_
  have hrx0 := j_rng x0
  refine J_iload_n dX7_isGround_0 rfl ?_
  refine Jz_iconst 0 dX7_isGround_1 (by decide) (fun y1 he1 => ?_)
  refine Jz_iconst 3 dX7_isGround_2 (by decide) (fun y2 he2 => ?_)
  refine J_callS3 moX7_in jw_ml_X7_105 jw_st_X7_in dX7_isGround_3 (w_X7_in (d - 1) _ x0 y1 y2 (by omega)   ) (by omega) (Nat.zero_le _) (Nat.zero_le _) (Nat.le_of_ble_eq_true rfl) (fun r3 V3 h3 => ?_)
  obtain ⟨⟨y3, rfl, hl3, hh3, hI3_0, hI3_1⟩, hE3⟩ := h3
  have hE3 := hE3.symm
  subst hE3
  exact J_ret (r := some (.int _)) dX7_isGround_6 ⟨rfl, _, rfl, (nar_b (by omega) (by omega))⟩ (⟨⟨_, rfl, (by omega), (by omega), (fun h => by have q0 := hI3_0.of h; (try simp only [he1.eq, he2.eq] at q0); omega)⟩, rfl⟩)
set_option maxRecDepth 100000 in
set_option maxHeartbeats 8000000 in
theorem w_X7_isForm {tS : jTS} (d : Nat) (V0 : jH) (a0 : Nat) (x1 : Int32) (v5 : Int32) (hd : 4 ≤ d) (hW : WT V0) (ha0 : jis V0 (.inr 5) a0) (hf_v5 : jfI V0 a0 5 5 v5) (hp0 : v5.toInt ≤ 60) : jTot tS mX7_isForm d [.ref a0, .int x1] V0 0 0 (jPost [.inl 21] V0 (fun r _ => ∃ y : Int32, r = some (.int y) ∧ (0 ≤ y.toInt) ∧ (y.toInt ≤ 1))) := by
  refine jTot.of_J [some (.ref a0), some (.int x1), none] moX7_isForm (Nat.le_of_ble_eq_true rfl) rfl ?_
  have hrx1 := j_rng x1
  have he : jeff [.inl 21] V0 V0 := jeff.refl _ _
  obtain ⟨fs_a0, hO_a0, hK_a0⟩ := WT_obj hW id ha0
  have hF_v5 := hf_v5.get hO_a0
  have hrv5 : 0 ≤ v5.toInt ∧ v5.toInt ≤ 120 := jok_rngI hK_a0 rfl hF_v5
  refine J_aload_n dX7_isForm_0 rfl ?_
  refine J_iload_n dX7_isForm_1 rfl ?_
  refine Jw_callV1 (q9 := (RX7, TX7, 34)) moX7_findForm jw_ml_X7_174 jw_im_X7_findForm jw_se_X7_findForm ha0 rfl rfl dX7_isForm_2 (w_X7_findForm (d - 1) _ a0 x1 v5 (by omega) hW  ha0 ⟨_, hO_a0, hF_v5⟩ (by omega)) (by omega) (Nat.zero_le _) (Nat.zero_le _) (Nat.le_of_ble_eq_true rfl) (fun r2 V2 h2 => ?_)
  obtain ⟨hW, hx2, hr2⟩ := h2
  have he := he.trans (hx2.sub (jsub_of rfl))
  have ha0 := ha0.mono hx2.1
  have hO_a0 := hx2.2 _ _ hO_a0 (jnot_of rfl)
  have hK_a0 := hK_a0.mono hx2.1
  cases hr2
  refine Jz_iconst 0 dX7_isForm_5 (by decide) (fun y5 he5 => ?_)
  refine J_istore_n dX7_isForm_6 rfl (by decide) ?_
  have L7 : ∀ (N : Nat) (V : jH) (i2n7 : Int32), WT V → jeff [.inl 21] V0 V → (jis V (.inr 5) a0) → (V a0 = some (.inr (5, fs_a0))) → (jokO V (jFs 5) fs_a0) → (0 ≤ i2n7.toInt) → (300 - i2n7.toInt).toNat < N → J tS mX7_isForm d 7 [some (.ref a0), some (.int x1), some (.int i2n7)] [] V 0 0 (jPost [.inl 21] V0 (fun r _ => ∃ y : Int32, r = some (.int y) ∧ (0 ≤ y.toInt) ∧ (y.toInt ≤ 1))) := by
    intro N
    induction N with
    | zero => intro V i2n7 hW he ha0 hO_a0 hK_a0 hi2 hm; exact absurd hm (Nat.not_lt_zero _)
    | succ N ih =>
      intro V i2n7 hW he ha0 hO_a0 hK_a0 hi2 hm
      have ih7 := ih
      have hri2 := j_rng i2n7
      refine J_iload_n dX7_isForm_7 rfl ?_
      refine J_aload_n dX7_isForm_8 rfl ?_
      refine J_get jf_X7_109 dX7_isForm_9 hO_a0 hF_v5 ?_
      refine Jz_icmp_ge (tgt := 38) jEq.rf jEq.rf dX7_isForm_12 (by decide) (fun c12 => ?_) (fun c12 => ?_)
      · refine Jz_iconst 1 dX7_isForm_38 (by decide) (fun y38 he38 => ?_)
        exact J_ret (r := some (.int _)) dX7_isForm_39 ⟨rfl, _, rfl, (nar_b (by (try simp only [he38.eq, true_and, and_true]) <;> omega) (by (try simp only [he38.eq, true_and, and_true]) <;> omega))⟩ (⟨hW, he, ⟨_, rfl, (by (try simp only [he38.eq, true_and, and_true]) <;> omega), (by (try simp only [he38.eq, true_and, and_true]) <;> omega)⟩⟩)
      · refine J_aload_n dX7_isForm_15 rfl ?_
        obtain ⟨w16, hF16, b16, rfl, hb16⟩ := hK_a0.2 9 (.inr (some (.inl 21))) rfl
        refine J_get jf_X7_31 dX7_isForm_16 hO_a0 hF16 ?_
        refine J_iload_n dX7_isForm_19 rfl ?_
        obtain ⟨n20, f20, hA20, hN20, hM20, hv20⟩ := WT_arrI (r := (-2147483648, 2147483647)) hW id rfl hb16
        obtain rfl := hM20 60 rfl
        clear hN20 hM20
        refine Jz_ialdw jEq.rf dX7_isForm_20 hA20 rfl (by omega) (by omega) (fun y20 => ?_)
        refine J_aload_n dX7_isForm_21 rfl ?_
        obtain ⟨w22, hF22, b22, rfl, hb22⟩ := hK_a0.2 4 (.inr (some (.inl 17))) rfl
        refine J_get jf_X7_19 dX7_isForm_22 hO_a0 hF22 ?_
        refine J_iload_n dX7_isForm_25 rfl ?_
        obtain ⟨n26, f26, hA26, hN26, hM26, hv26⟩ := WT_arrI (r := (-2147483648, 2147483647)) hW id rfl hb22
        obtain rfl := hM26 120 rfl
        clear hN26 hM26
        refine Jz_ialdw jEq.rf dX7_isForm_26 hA26 rfl (by omega) (by omega) (fun y26 => ?_)
        refine Jz_icmp_eq (tgt := 32) jEq.rf jEq.rf dX7_isForm_27 (by decide) (fun c27 => ?_) (fun c27 => ?_)
        · refine Jz_iinc 1 dX7_isForm_32 rfl rfl (by decide) jEq.rf (by decide) (by omega) (by omega) (fun y32 he32 => ?_)
          refine J_goto (tgt := 7) dX7_isForm_35 (by decide) ?_
          refine J.mask [true, true, true] ?_
          exact ih7 _ y32 hW he ha0 hO_a0 hK_a0 (by (try simp only [he32.eq, true_and, and_true]) <;> omega) (by (try simp only [he32.eq, true_and, and_true]) <;> omega)
        · refine Jz_iconst 0 dX7_isForm_30 (by decide) (fun y30 he30 => ?_)
          exact J_ret (r := some (.int _)) dX7_isForm_31 ⟨rfl, _, rfl, (nar_b (by (try simp only [he30.eq, true_and, and_true]) <;> omega) (by (try simp only [he30.eq, true_and, and_true]) <;> omega))⟩ (⟨hW, he, ⟨_, rfl, (by (try simp only [he30.eq, true_and, and_true]) <;> omega), (by (try simp only [he30.eq, true_and, and_true]) <;> omega)⟩⟩)
  refine J.mask [true, true, true] ?_
  exact L7 _ _ y5 hW he ha0 hO_a0 hK_a0 (by (try simp only [he5.eq, true_and, and_true]) <;> omega) (Nat.lt_succ_self _)
set_option maxRecDepth 100000 in
set_option maxHeartbeats 8000000 in
theorem w_X7_board {tS : jTS} (d : Nat) (V0 : jH) (a0 : Nat) (x1 : Int32) (x2 : Int32) (hd : 1 ≤ d) (hW : WT V0) (ha0 : jis V0 (.inr 5) a0) : jTot tS mX7_board d [.ref a0, .int x1, .int x2] V0 0 0 (fun r V => (jPost [.inr 5, .inl 43] V0 (fun r _ => ∃ y : Int32, r = some (.int y) ∧ ((-2147483648) ≤ y.toInt) ∧ (y.toInt ≤ 2147483647) ∧ ((y.toInt = 1 ∧ 2 ≤ x1.toInt ∧ x1.toInt ≤ 6 ∧ 2 ≤ x2.toInt ∧ x2.toInt ≤ 6) ∨ (y.toInt = -2 ∧ ¬ (2 ≤ x1.toInt ∧ x1.toInt ≤ 6 ∧ 2 ≤ x2.toInt ∧ x2.toInt ≤ 6))))) r V ∧ jkc 5 [0] V0 V) := by
  refine jTot.of_J [some (.ref a0), some (.int x1), some (.int x2), none] moX7_board (Nat.le_of_ble_eq_true rfl) rfl ?_
  have hrx1 := j_rng x1
  have hrx2 := j_rng x2
  have he : jeff [.inr 5, .inl 43] V0 V0 := jeff.refl _ _
  have hkp : jkc 5 [0] V0 V0 := jkc.rf
  refine J_iload_n dX7_board_0 rfl ?_
  refine Jz_iconst 2 dX7_board_1 (by decide) (fun y1 he1 => ?_)
  refine Jz_bipush 6 dX7_board_2 (by decide) (fun y2 he2 => ?_)
  refine J_callS3 moX7_in jw_ml_X7_105 jw_st_X7_in dX7_board_4 (w_X7_in (d - 1) _ x1 y1 y2 (by omega)   ) (by omega) (Nat.zero_le _) (Nat.zero_le _) (Nat.le_of_ble_eq_true rfl) (fun r4 V4 h4 => ?_)
  obtain ⟨⟨y4, rfl, hl4, hh4, hI4_0, hI4_1⟩, hE4⟩ := h4
  have hE4 := hE4.symm
  subst hE4
  refine Jz_if_eq (tgt := 20) jEq.rf dX7_board_7 (by decide) (fun c7 => ?_) (fun c7 => ?_)
  · have q7_1 := hI4_1.of (by omega)
    try simp only [he1.eq, he2.eq] at q7_1
    refine Jz_bipush (-2) dX7_board_20 (by decide) (fun y20 he20 => ?_)
    exact J_ret (r := some (.int _)) dX7_board_22 ⟨rfl, _, rfl, rfl⟩ (⟨⟨hW, he, ⟨_, rfl, (j_rng _).1, (j_rng _).2, (by (try simp only [he20.eq, true_and, and_true]) <;> omega)⟩⟩, hkp⟩)
  · have q7_0 := hI4_0.of (by omega)
    try simp only [he1.eq, he2.eq] at q7_0
    refine J_iload_n dX7_board_10 rfl ?_
    refine Jz_iconst 2 dX7_board_11 (by decide) (fun y11 he11 => ?_)
    refine Jz_bipush 6 dX7_board_12 (by decide) (fun y12 he12 => ?_)
    refine J_callS3 moX7_in jw_ml_X7_105 jw_st_X7_in dX7_board_14 (w_X7_in (d - 1) _ x2 y11 y12 (by omega)   ) (by omega) (Nat.zero_le _) (Nat.zero_le _) (Nat.le_of_ble_eq_true rfl) (fun r14 V14 h14 => ?_)
    obtain ⟨⟨y14, rfl, hl14, hh14, hI14_0, hI14_1⟩, hE14⟩ := h14
    have hE14 := hE14.symm
    subst hE14
    refine Jz_if_ne (tgt := 23) jEq.rf dX7_board_17 (by decide) (fun c17 => ?_) (fun c17 => ?_)
    · have q17_0 := hI14_0.of (by omega)
      try simp only [he11.eq, he12.eq] at q17_0
      refine J_aload_n dX7_board_23 rfl ?_
      refine J_iload_n dX7_board_24 rfl ?_
      obtain ⟨fs25o, hO25o, hK25o⟩ := WT_obj hW id ha0
      refine Jz_putI hO25o hW id rfl jf_X7_73 jt_X7_23 jEq.rf dX7_board_25 (by omega) (by omega) (fun _ _ => ⟨rfl, rfl⟩) (fun V25 fs25 hW hx25 hO25 hS25 hT25 hB25 => ?_)
      have hK25 : jokO _ (jFs 5) fs25 := hW _ _ id hO25
      have he := he.trans (hx25.sub (jsub_of rfl))
      have hkp := hkp.trans (jkc.put hO25o hO25 hT25 hB25 (by decide))
      have ha0 := ha0.mono hx25.1
      refine J_aload_n dX7_board_28 rfl ?_
      refine J_iload_n dX7_board_29 rfl ?_
      refine Jz_putI hO25 hW id rfl jf_X7_77 jt_X7_24 jEq.rf dX7_board_30 (by omega) (by omega) (fun _ _ => ⟨rfl, rfl⟩) (fun V30 fs30 hW hx30 hO30 hS30 hT30 hB30 => ?_)
      have hK30 : jokO _ (jFs 5) fs30 := hW _ _ id hO30
      have hF30_23 := (hT30 23 (by decide)).trans hS25
      have he := he.trans (hx30.sub (jsub_of rfl))
      have hkp := hkp.trans (jkc.put hO25 hO30 hT30 hB30 (by decide))
      have ha0 := ha0.mono hx30.1
      refine Jz_iconst 0 dX7_board_33 (by decide) (fun y33 he33 => ?_)
      refine J_istore_n dX7_board_34 rfl (by decide) ?_
      have L35 : ∀ (N : Nat) (V : jH) (i3n35 : Int32), WT V → jeff [.inr 5, .inl 43] V0 V → (jis V (.inr 5) a0) → (jkc 5 [0] V0 V) → (V a0 = some (.inr (5, fs30))) → (jokO V (jFs 5) fs30) → (0 ≤ i3n35.toInt) → (300 - i3n35.toInt).toNat < N → J tS mX7_board d 35 [some (.ref a0), some (.int x1), some (.int x2), some (.int i3n35)] [] V 0 0 (fun r V => (jPost [.inr 5, .inl 43] V0 (fun r _ => ∃ y : Int32, r = some (.int y) ∧ ((-2147483648) ≤ y.toInt) ∧ (y.toInt ≤ 2147483647) ∧ ((y.toInt = 1 ∧ 2 ≤ x1.toInt ∧ x1.toInt ≤ 6 ∧ 2 ≤ x2.toInt ∧ x2.toInt ≤ 6) ∨ (y.toInt = -2 ∧ ¬ (2 ≤ x1.toInt ∧ x1.toInt ≤ 6 ∧ 2 ≤ x2.toInt ∧ x2.toInt ≤ 6))))) r V ∧ jkc 5 [0] V0 V) := by
        intro N
        induction N with
        | zero => intro V i3n35 hW he ha0 hkp hO30 hK30 hi3 hm; exact absurd hm (Nat.not_lt_zero _)
        | succ N ih =>
          intro V i3n35 hW he ha0 hkp hO30 hK30 hi3 hm
          have ih35 := ih
          have hri3 := j_rng i3n35
          refine J_iload_n dX7_board_35 rfl ?_
          refine Jz_bipush 36 dX7_board_36 (by decide) (fun y36 he36 => ?_)
          refine Jz_icmp_ge (tgt := 54) jEq.rf he36 dX7_board_38 (by decide) (fun c38 => ?_) (fun c38 => ?_)
          · refine J_aload_n dX7_board_54 rfl ?_
            refine Jz_iconst 0 dX7_board_55 (by decide) (fun y55 he55 => ?_)
            refine Jz_putI hO30 hW id rfl jf_X7_214 jt_X7_26 he55 dX7_board_56 (by omega) (by omega) (fun _ h => ⟨nar_b (by omega) (by omega), fit_b (by omega) (by omega)⟩) (fun V56 fs56 hW hx56 hO56 hS56 hT56 hB56 => ?_)
            have hK56 : jokO _ (jFs 5) fs56 := hW _ _ id hO56
            have hF56_24 := (hT56 24 (by decide)).trans hS30
            have hF56_23 := (hT56 23 (by decide)).trans hF30_23
            have he := he.trans (hx56.sub (jsub_of rfl))
            have hkp := hkp.trans (jkc.put hO30 hO56 hT56 hB56 (by decide))
            have ha0 := ha0.mono hx56.1
            refine Jz_iconst 1 dX7_board_59 (by decide) (fun y59 he59 => ?_)
            exact J_ret (r := some (.int _)) dX7_board_60 ⟨rfl, _, rfl, rfl⟩ (⟨⟨hW, he, ⟨_, rfl, (j_rng _).1, (j_rng _).2, (by (try simp only [he59.eq, true_and, and_true]) <;> omega)⟩⟩, hkp⟩)
          · refine J_aload_n dX7_board_41 rfl ?_
            obtain ⟨w42, hF42, b42, rfl, hb42⟩ := hK30.2 25 (.inr (some (.inl 43))) rfl
            refine J_get jf_X7_80 dX7_board_42 hO30 hF42 ?_
            refine J_iload_n dX7_board_45 rfl ?_
            refine Jz_iconst 0 dX7_board_46 (by decide) (fun y46 he46 => ?_)
            obtain ⟨n47, f47, hA47, hN47, hM47, hv47⟩ := WT_arrI (r := (0, 1)) hW id rfl hb42
            obtain rfl := hM47 36 rfl
            clear hN47 hM47
            refine Jz_zastw (r := (0, 1)) jEq.rf he46 hW id dX7_board_47 hA47 rfl rfl (by omega) (by omega) (by omega) (by omega) (fun _ h => vp_nar_b (by omega) (by omega)) (fun V47 hW hx47 => ?_)
            have he := he.trans (hx47.sub (jsub_of rfl))
            have hkp := hkp.trans (jkc.of hx47 (jnot_of rfl))
            have ha0 := ha0.mono hx47.1
            have hb42 := hb42.mono hx47.1
            have hO30 := hx47.2 _ _ hO30 (jnot_of rfl)
            have hK30 := hK30.mono hx47.1
            refine Jz_iinc 1 dX7_board_48 rfl rfl (by decide) jEq.rf (by decide) (by omega) (by omega) (fun y48 he48 => ?_)
            refine J_goto (tgt := 35) dX7_board_51 (by decide) ?_
            refine J.mask [true, true, true, true] ?_
            exact ih35 _ y48 hW he ha0 hkp hO30 hK30 (by (try simp only [he48.eq, true_and, and_true]) <;> omega) (by (try simp only [he48.eq, true_and, and_true]) <;> omega)
      refine J.mask [true, true, true, true] ?_
      exact L35 _ _ y33 hW he ha0 hkp hO30 hK30 (by (try simp only [he33.eq, true_and, and_true]) <;> omega) (Nat.lt_succ_self _)
    · have q17_1 := hI14_1.of (by omega)
      try simp only [he11.eq, he12.eq] at q17_1
      refine Jz_bipush (-2) dX7_board_20 (by decide) (fun y20 he20 => ?_)
      exact J_ret (r := some (.int _)) dX7_board_22 ⟨rfl, _, rfl, rfl⟩ (⟨⟨hW, he, ⟨_, rfl, (j_rng _).1, (j_rng _).2, (by (try simp only [he20.eq, true_and, and_true]) <;> omega)⟩⟩, hkp⟩)
set_option maxRecDepth 100000 in
set_option maxHeartbeats 8000000 in
theorem w_X7_hole {tS : jTS} (d : Nat) (V0 : jH) (a0 : Nat) (x1 : Int32) (x2 : Int32) (x3 : Int32) (hd : 1 ≤ d) (hW : WT V0) (ha0 : jis V0 (.inr 5) a0) (hl3 : 0 ≤ x3.toInt) (hh3 : x3.toInt ≤ 1) : jTot tS mX7_hole d [.ref a0, .int x1, .int x2, .int x3] V0 0 0 (fun r V => (jPost [.inr 5, .inl 43] V0 (fun r _ => ∃ y : Int32, r = some (.int y) ∧ ((-2147483648) ≤ y.toInt) ∧ (y.toInt ≤ 2147483647))) r V ∧ jkc 5 [0, 23, 24] V0 V) := by
  refine jTot.of_J [some (.ref a0), some (.int x1), some (.int x2), some (.int x3), none] moX7_hole (Nat.le_of_ble_eq_true rfl) rfl ?_
  have hrx1 := j_rng x1
  have hrx2 := j_rng x2
  have he : jeff [.inr 5, .inl 43] V0 V0 := jeff.refl _ _
  have hkp : jkc 5 [0, 23, 24] V0 V0 := jkc.rf
  refine J_iload_n dX7_hole_0 rfl ?_
  refine Jz_iconst 0 dX7_hole_1 (by decide) (fun y1 he1 => ?_)
  refine J_aload_n dX7_hole_2 rfl ?_
  obtain ⟨fs3, hO3, hK3⟩ := WT_obj hW id ha0
  obtain ⟨w3, hF3, y3, rfl, hl3, hh3⟩ := hK3.2 23 (.inl (2, 6)) rfl
  dsimp only at hl3 hh3
  refine J_get jf_X7_73 dX7_hole_3 hO3 hF3 ?_
  refine Jz_iconst 1 dX7_hole_6 (by decide) (fun y6 he6 => ?_)
  refine Jz_isub jEq.rf he6 dX7_hole_7 (by omega) (by omega) (fun y7 he7 => ?_)
  refine J_callS3 moX7_in jw_ml_X7_105 jw_st_X7_in dX7_hole_8 (w_X7_in (d - 1) _ x1 y1 y7 (by omega)   ) (by omega) (Nat.zero_le _) (Nat.zero_le _) (Nat.le_of_ble_eq_true rfl) (fun r8 V8 h8 => ?_)
  obtain ⟨⟨y8, rfl, hl8, hh8, hI8_0, hI8_1⟩, hE8⟩ := h8
  have hE8 := hE8.symm
  subst hE8
  refine Jz_if_eq (tgt := 28) jEq.rf dX7_hole_11 (by decide) (fun c11 => ?_) (fun c11 => ?_)
  · have q11_1 := hI8_1.of (by omega)
    try simp only [he1.eq, he7.eq] at q11_1
    refine Jz_bipush (-2) dX7_hole_28 (by decide) (fun y28 he28 => ?_)
    exact J_ret (r := some (.int _)) dX7_hole_30 ⟨rfl, _, rfl, rfl⟩ (⟨⟨hW, he, ⟨_, rfl, (j_rng _).1, (j_rng _).2⟩⟩, hkp⟩)
  · have q11_0 := hI8_0.of (by omega)
    try simp only [he1.eq, he7.eq] at q11_0
    refine J_iload_n dX7_hole_14 rfl ?_
    refine Jz_iconst 0 dX7_hole_15 (by decide) (fun y15 he15 => ?_)
    refine J_aload_n dX7_hole_16 rfl ?_
    obtain ⟨w17, hF17, y17, rfl, hl17, hh17⟩ := hK3.2 24 (.inl (2, 6)) rfl
    dsimp only at hl17 hh17
    refine J_get jf_X7_77 dX7_hole_17 hO3 hF17 ?_
    refine Jz_iconst 1 dX7_hole_20 (by decide) (fun y20 he20 => ?_)
    refine Jz_isub jEq.rf he20 dX7_hole_21 (by omega) (by omega) (fun y21 he21 => ?_)
    refine J_callS3 moX7_in jw_ml_X7_105 jw_st_X7_in dX7_hole_22 (w_X7_in (d - 1) _ x2 y15 y21 (by omega)   ) (by omega) (Nat.zero_le _) (Nat.zero_le _) (Nat.le_of_ble_eq_true rfl) (fun r22 V22 h22 => ?_)
    obtain ⟨⟨y22, rfl, hl22, hh22, hI22_0, hI22_1⟩, hE22⟩ := h22
    have hE22 := hE22.symm
    subst hE22
    refine Jz_if_ne (tgt := 31) jEq.rf dX7_hole_25 (by decide) (fun c25 => ?_) (fun c25 => ?_)
    · have q25_0 := hI22_0.of (by omega)
      try simp only [he15.eq, he21.eq] at q25_0
      refine J_iload_n dX7_hole_31 rfl ?_
      refine J_aload_n dX7_hole_32 rfl ?_
      refine J_get jf_X7_73 dX7_hole_33 hO3 hF3 ?_
      refine J_iload_n dX7_hole_36 rfl ?_
      refine Jz_imulB 5 jEq.rf jEq.rf dX7_hole_37 (by omega) (by omega) (by omega) (by omega) (fun y37 he37 hf37 => ?_)
      refine Jz_iadd jEq.rf jEq.rf dX7_hole_38 (by omega) (by omega) (fun y38 he38 => ?_)
      refine J_istore dX7_hole_39 rfl (by decide) ?_
      refine J_aload_n dX7_hole_41 rfl ?_
      obtain ⟨w42, hF42, b42, rfl, hb42⟩ := hK3.2 25 (.inr (some (.inl 43))) rfl
      refine J_get jf_X7_80 dX7_hole_42 hO3 hF42 ?_
      refine J_iload dX7_hole_45 rfl ?_
      obtain ⟨n47, f47, hA47, hN47, hM47, hv47⟩ := WT_arrI (r := (0, 1)) hW id rfl hb42
      obtain rfl := hM47 36 rfl
      clear hN47 hM47
      refine Jz_zaldr (r := (0, 1)) he38 dX7_hole_47 hA47 rfl hv47 (by omega) (by omega) (fun y47 hl47 hh47 => ?_)
      dsimp only at hl47 hh47
      refine J_iload_n dX7_hole_48 rfl ?_
      refine Jz_icmp_eq (tgt := 73) jEq.rf jEq.rf dX7_hole_49 (by decide) (fun c49 => ?_) (fun c49 => ?_)
      · refine Jz_bipush (-3) dX7_hole_73 (by decide) (fun y73 he73 => ?_)
        exact J_ret (r := some (.int _)) dX7_hole_75 ⟨rfl, _, rfl, rfl⟩ (⟨⟨hW, he, ⟨_, rfl, (j_rng _).1, (j_rng _).2⟩⟩, hkp⟩)
      · refine J_iload dX7_hole_52 rfl ?_
        refine Jz_if_eq (tgt := 73) he38 dX7_hole_54 (by decide) (fun c54 => ?_) (fun c54 => ?_)
        · refine Jz_bipush (-3) dX7_hole_73 (by decide) (fun y73 he73 => ?_)
          exact J_ret (r := some (.int _)) dX7_hole_75 ⟨rfl, _, rfl, rfl⟩ (⟨⟨hW, he, ⟨_, rfl, (j_rng _).1, (j_rng _).2⟩⟩, hkp⟩)
        · refine J_iload dX7_hole_57 rfl ?_
          refine J_aload_n dX7_hole_59 rfl ?_
          refine J_get jf_X7_73 dX7_hole_60 hO3 hF3 ?_
          refine J_aload_n dX7_hole_63 rfl ?_
          refine J_get jf_X7_77 dX7_hole_64 hO3 hF17 ?_
          refine Jz_imulM 6 jEq.rf jEq.rf dX7_hole_67 (by omega) (by omega) (by omega) (by omega) (fun y67 he67 hf67 => ?_)
          refine Jz_iconst 1 dX7_hole_68 (by decide) (fun y68 he68 => ?_)
          refine Jz_isub jEq.rf he68 dX7_hole_69 (by omega) (by omega) (fun y69 he69 => ?_)
          refine Jz_icmp_ne (tgt := 76) he38 he69 dX7_hole_70 (by decide) (fun c70 => ?_) (fun c70 => ?_)
          · refine J_aload_n dX7_hole_76 rfl ?_
            refine J_get jf_X7_80 dX7_hole_77 hO3 hF42 ?_
            refine J_iload dX7_hole_80 rfl ?_
            refine J_iload_n dX7_hole_82 rfl ?_
            refine Jz_zastw (r := (0, 1)) he38 jEq.rf hW id dX7_hole_83 hA47 rfl rfl (by omega) (by omega) (by omega) (by omega) (fun _ h => vp_nar_b (by omega) (by omega)) (fun V83 hW hx83 => ?_)
            have he := he.trans (hx83.sub (jsub_of rfl))
            have hkp := hkp.trans (jkc.of hx83 (jnot_of rfl))
            have ha0 := ha0.mono hx83.1
            have hb42 := hb42.mono hx83.1
            have hO3 := hx83.2 _ _ hO3 (jnot_of rfl)
            have hK3 := hK3.mono hx83.1
            refine J_aload_n dX7_hole_84 rfl ?_
            refine Jz_iconst 0 dX7_hole_85 (by decide) (fun y85 he85 => ?_)
            refine Jz_putI hO3 hW id rfl jf_X7_214 jt_X7_26 he85 dX7_hole_86 (by omega) (by omega) (fun _ h => ⟨nar_b (by omega) (by omega), fit_b (by omega) (by omega)⟩) (fun V86 fs86 hW hx86 hO86 hS86 hT86 hB86 => ?_)
            have hK86 : jokO _ (jFs 5) fs86 := hW _ _ id hO86
            have hF86_23 := (hT86 23 (by decide)).trans hF3
            have hF86_24 := (hT86 24 (by decide)).trans hF17
            have hF86_25 := (hT86 25 (by decide)).trans hF42
            have he := he.trans (hx86.sub (jsub_of rfl))
            have hkp := hkp.trans (jkc.put hO3 hO86 hT86 hB86 (by decide))
            have ha0 := ha0.mono hx86.1
            have hb42 := hb42.mono hx86.1
            refine Jz_iconst 1 dX7_hole_89 (by decide) (fun y89 he89 => ?_)
            exact J_ret (r := some (.int _)) dX7_hole_90 ⟨rfl, _, rfl, rfl⟩ (⟨⟨hW, he, ⟨_, rfl, (j_rng _).1, (j_rng _).2⟩⟩, hkp⟩)
          · refine Jz_bipush (-3) dX7_hole_73 (by decide) (fun y73 he73 => ?_)
            exact J_ret (r := some (.int _)) dX7_hole_75 ⟨rfl, _, rfl, rfl⟩ (⟨⟨hW, he, ⟨_, rfl, (j_rng _).1, (j_rng _).2⟩⟩, hkp⟩)
    · have q25_1 := hI22_1.of (by omega)
      try simp only [he15.eq, he21.eq] at q25_1
      refine Jz_bipush (-2) dX7_hole_28 (by decide) (fun y28 he28 => ?_)
      exact J_ret (r := some (.int _)) dX7_hole_30 ⟨rfl, _, rfl, rfl⟩ (⟨⟨hW, he, ⟨_, rfl, (j_rng _).1, (j_rng _).2⟩⟩, hkp⟩)
set_option maxRecDepth 100000 in
set_option maxHeartbeats 8000000 in
theorem w_X7_open {tS : jTS} (d : Nat) (V0 : jH) (a0 : Nat) (hd : 0 ≤ d) (hW : WT V0) (ha0 : jis V0 (.inr 5) a0) : jTot tS mX7_open d [.ref a0] V0 0 0 (fun r V => (fun r _ => ∃ y : Int32, r = some (.int y) ∧ ((-2147483648) ≤ y.toInt) ∧ (y.toInt ≤ 2147483647)) r V ∧ V = V0) := by
  refine jTot.of_J [some (.ref a0), none, none] moX7_open (Nat.le_of_ble_eq_true rfl) rfl ?_
  have he : jeff [] V0 V0 := jeff.refl _ _
  refine Jz_iconst 0 dX7_open_0 (by decide) (fun y0 he0 => ?_)
  refine J_istore_n dX7_open_1 rfl (by decide) ?_
  refine Jz_iconst 0 dX7_open_2 (by decide) (fun y2 he2 => ?_)
  refine J_istore_n dX7_open_3 rfl (by decide) ?_
  have L4 : ∀ (N : Nat) (i1n4 : Int32) (i2n4 : Int32), (0 ≤ i2n4.toInt) → (300 - i2n4.toInt).toNat < N → J tS mX7_open d 4 [some (.ref a0), some (.int i1n4), some (.int i2n4)] [] V0 0 0 (fun r V => (fun r _ => ∃ y : Int32, r = some (.int y) ∧ ((-2147483648) ≤ y.toInt) ∧ (y.toInt ≤ 2147483647)) r V ∧ V = V0) := by
    intro N
    induction N with
    | zero => intro i1n4 i2n4  hi2 hm; exact absurd hm (Nat.not_lt_zero _)
    | succ N ih =>
      intro i1n4 i2n4  hi2 hm
      have ih4 := ih
      have hri2 := j_rng i2n4
      refine J_iload_n dX7_open_4 rfl ?_
      refine J_aload_n dX7_open_5 rfl ?_
      obtain ⟨fs6, hO6, hK6⟩ := WT_obj hW id ha0
      obtain ⟨w6, hF6, y6, rfl, hl6, hh6⟩ := hK6.2 23 (.inl (2, 6)) rfl
      dsimp only at hl6 hh6
      refine J_get jf_X7_73 dX7_open_6 hO6 hF6 ?_
      refine J_aload_n dX7_open_9 rfl ?_
      obtain ⟨w10, hF10, y10, rfl, hl10, hh10⟩ := hK6.2 24 (.inl (2, 6)) rfl
      dsimp only at hl10 hh10
      refine J_get jf_X7_77 dX7_open_10 hO6 hF10 ?_
      refine Jz_imulB 6 jEq.rf jEq.rf dX7_open_13 (by omega) (by omega) (by omega) (by omega) (fun y13 he13 hf13 => ?_)
      refine Jz_icmp_ge (tgt := 40) jEq.rf jEq.rf dX7_open_14 (by decide) (fun c14 => ?_) (fun c14 => ?_)
      · refine J_iload_n dX7_open_40 rfl ?_
        exact J_ret (r := some (.int _)) dX7_open_41 ⟨rfl, _, rfl, rfl⟩ (⟨⟨_, rfl, (j_rng _).1, (j_rng _).2⟩, rfl⟩)
      · refine J_iload_n dX7_open_17 rfl ?_
        refine J_aload_n dX7_open_18 rfl ?_
        obtain ⟨w19, hF19, b19, rfl, hb19⟩ := hK6.2 25 (.inr (some (.inl 43))) rfl
        refine J_get jf_X7_80 dX7_open_19 hO6 hF19 ?_
        refine J_iload_n dX7_open_22 rfl ?_
        obtain ⟨n23, f23, hA23, hN23, hM23, hv23⟩ := WT_arrI (r := (0, 1)) hW id rfl hb19
        obtain rfl := hM23 36 rfl
        clear hN23 hM23
        refine Jz_zaldr (r := (0, 1)) jEq.rf dX7_open_23 hA23 rfl hv23 (by omega) (by omega) (fun y23 hl23 hh23 => ?_)
        dsimp only at hl23 hh23
        refine Jz_if_eq (tgt := 31) jEq.rf dX7_open_24 (by decide) (fun c24 => ?_) (fun c24 => ?_)
        · refine Jz_iconst 1 dX7_open_31 (by decide) (fun y31 he31 => ?_)
          refine Jz_iaddw dX7_open_32 (fun y32  => ?_)
          refine J_istore_n dX7_open_33 rfl (by decide) ?_
          refine Jz_iinc 1 dX7_open_34 rfl rfl (by decide) jEq.rf (by decide) (by omega) (by omega) (fun y34 he34 => ?_)
          refine J_goto (tgt := 4) dX7_open_37 (by decide) ?_
          refine J.mask [true, true, true] ?_
          exact ih4  y32 y34  (by (try simp only [he34.eq, true_and, and_true]) <;> omega) (by (try simp only [he34.eq, true_and, and_true]) <;> omega)
        · refine Jz_iconst 0 dX7_open_27 (by decide) (fun y27 he27 => ?_)
          refine J_goto (tgt := 32) dX7_open_28 (by decide) ?_
          refine Jz_iaddw dX7_open_32 (fun y32  => ?_)
          refine J_istore_n dX7_open_33 rfl (by decide) ?_
          refine Jz_iinc 1 dX7_open_34 rfl rfl (by decide) jEq.rf (by decide) (by omega) (by omega) (fun y34 he34 => ?_)
          refine J_goto (tgt := 4) dX7_open_37 (by decide) ?_
          refine J.mask [true, true, true] ?_
          exact ih4  y32 y34  (by (try simp only [he34.eq, true_and, and_true]) <;> omega) (by (try simp only [he34.eq, true_and, and_true]) <;> omega)
  refine J.mask [true, true, true] ?_
  exact L4 _  y0 y2    (by (try simp only [he0.eq, he2.eq, true_and, and_true]) <;> omega) (Nat.lt_succ_self _)
set_option maxRecDepth 100000 in
set_option maxHeartbeats 8000000 in
theorem w_X7_next {tS : jTS} (d : Nat) (V0 : jH) (a0 : Nat) (x1 : Int32) (x2 : Int32) (hd : 1 ≤ d) (hW : WT V0) (ha0 : jis V0 (.inr 5) a0) : jTot tS mX7_next d [.ref a0, .int x1, .int x2] V0 0 0 (fun r V => (fun r _ => ∃ y : Int32, r = some (.int y) ∧ ((-1) ≤ y.toInt) ∧ (y.toInt ≤ 35)) r V ∧ V = V0) := by
  refine jTot.of_J [some (.ref a0), some (.int x1), some (.int x2), none, none] moX7_next (Nat.le_of_ble_eq_true rfl) rfl ?_
  have hrx1 := j_rng x1
  have hrx2 := j_rng x2
  have he : jeff [] V0 V0 := jeff.refl _ _
  refine J_iload_n dX7_next_0 rfl ?_
  refine J_aload_n dX7_next_1 rfl ?_
  obtain ⟨fs2, hO2, hK2⟩ := WT_obj hW id ha0
  obtain ⟨w2, hF2, y2, rfl, hl2, hh2⟩ := hK2.2 23 (.inl (2, 6)) rfl
  dsimp only at hl2 hh2
  refine J_get jf_X7_73 dX7_next_2 hO2 hF2 ?_
  refine Jz_iremw jEq.rf dX7_next_5 (by omega) (fun y5  => ?_)
  refine Jz_iconst 0 dX7_next_6 (by decide) (fun y6 he6 => ?_)
  refine J_iload_n dX7_next_7 rfl ?_
  refine J_callS2 moX7_stepX jw_ml_X7_112 jw_st_X7_stepX dX7_next_8 (w_X7_stepX (d - 1) _ y6 x2 (by omega)   ) (by omega) (Nat.zero_le _) (Nat.zero_le _) (Nat.le_of_ble_eq_true rfl) (fun r8 V8 h8 => ?_)
  obtain ⟨⟨y8, rfl, hl8, hh8⟩, hE8⟩ := h8
  have hE8 := hE8.symm
  subst hE8
  refine Jz_iaddw dX7_next_11 (fun y11  => ?_)
  refine J_istore_n dX7_next_12 rfl (by decide) ?_
  refine J_iload_n dX7_next_13 rfl ?_
  refine J_aload_n dX7_next_14 rfl ?_
  refine J_get jf_X7_73 dX7_next_15 hO2 hF2 ?_
  refine Jz_idivw jEq.rf dX7_next_18 (by omega) (fun y18  => ?_)
  refine Jz_iconst 0 dX7_next_19 (by decide) (fun y19 he19 => ?_)
  refine J_iload_n dX7_next_20 rfl ?_
  refine Jz_iconst 0 dX7_next_21 (by decide) (fun y21 he21 => ?_)
  refine J_callS3 moX7_stepY jw_ml_X7_115 jw_st_X7_stepY dX7_next_22 (w_X7_stepY (d - 1) _ y19 x2 y21 (by omega)   ) (by omega) (Nat.zero_le _) (Nat.zero_le _) (Nat.le_of_ble_eq_true rfl) (fun r22 V22 h22 => ?_)
  obtain ⟨⟨y22, rfl, hl22, hh22⟩, hE22⟩ := h22
  have hE22 := hE22.symm
  subst hE22
  refine Jz_iaddw dX7_next_25 (fun y25  => ?_)
  refine J_istore dX7_next_26 rfl (by decide) ?_
  refine J_iload_n dX7_next_28 rfl ?_
  refine Jz_iconst 0 dX7_next_29 (by decide) (fun y29 he29 => ?_)
  refine J_aload_n dX7_next_30 rfl ?_
  refine J_get jf_X7_73 dX7_next_31 hO2 hF2 ?_
  refine Jz_iconst 1 dX7_next_34 (by decide) (fun y34 he34 => ?_)
  refine Jz_isub jEq.rf he34 dX7_next_35 (by omega) (by omega) (fun y35 he35 => ?_)
  refine J_callS3 moX7_in jw_ml_X7_105 jw_st_X7_in dX7_next_36 (w_X7_in (d - 1) _ y11 y29 y35 (by omega)   ) (by omega) (Nat.zero_le _) (Nat.zero_le _) (Nat.le_of_ble_eq_true rfl) (fun r36 V36 h36 => ?_)
  obtain ⟨⟨y36, rfl, hl36, hh36, hI36_0, hI36_1⟩, hE36⟩ := h36
  have hE36 := hE36.symm
  subst hE36
  refine Jz_if_eq (tgt := 86) jEq.rf dX7_next_39 (by decide) (fun c39 => ?_) (fun c39 => ?_)
  · have q39_1 := hI36_1.of (by omega)
    try simp only [he29.eq, he35.eq] at q39_1
    refine Jz_iconst (-1) dX7_next_86 (by decide) (fun y86 he86 => ?_)
    exact J_ret (r := some (.int _)) dX7_next_87 ⟨rfl, _, rfl, rfl⟩ (⟨⟨_, rfl, (by (try simp only [he86.eq, true_and, and_true]) <;> omega), (by (try simp only [he86.eq, true_and, and_true]) <;> omega)⟩, rfl⟩)
  · have q39_0 := hI36_0.of (by omega)
    try simp only [he29.eq, he35.eq] at q39_0
    refine J_iload dX7_next_42 rfl ?_
    refine Jz_iconst 0 dX7_next_44 (by decide) (fun y44 he44 => ?_)
    refine J_aload_n dX7_next_45 rfl ?_
    obtain ⟨w46, hF46, y46, rfl, hl46, hh46⟩ := hK2.2 24 (.inl (2, 6)) rfl
    dsimp only at hl46 hh46
    refine J_get jf_X7_77 dX7_next_46 hO2 hF46 ?_
    refine Jz_iconst 1 dX7_next_49 (by decide) (fun y49 he49 => ?_)
    refine Jz_isub jEq.rf he49 dX7_next_50 (by omega) (by omega) (fun y50 he50 => ?_)
    refine J_callS3 moX7_in jw_ml_X7_105 jw_st_X7_in dX7_next_51 (w_X7_in (d - 1) _ y25 y44 y50 (by omega)   ) (by omega) (Nat.zero_le _) (Nat.zero_le _) (Nat.le_of_ble_eq_true rfl) (fun r51 V51 h51 => ?_)
    obtain ⟨⟨y51, rfl, hl51, hh51, hI51_0, hI51_1⟩, hE51⟩ := h51
    have hE51 := hE51.symm
    subst hE51
    refine Jz_if_eq (tgt := 86) jEq.rf dX7_next_54 (by decide) (fun c54 => ?_) (fun c54 => ?_)
    · have q54_1 := hI51_1.of (by omega)
      try simp only [he44.eq, he50.eq] at q54_1
      refine Jz_iconst (-1) dX7_next_86 (by decide) (fun y86 he86 => ?_)
      exact J_ret (r := some (.int _)) dX7_next_87 ⟨rfl, _, rfl, rfl⟩ (⟨⟨_, rfl, (by (try simp only [he86.eq, true_and, and_true]) <;> omega), (by (try simp only [he86.eq, true_and, and_true]) <;> omega)⟩, rfl⟩)
    · have q54_0 := hI51_0.of (by omega)
      try simp only [he44.eq, he50.eq] at q54_0
      refine J_aload_n dX7_next_57 rfl ?_
      obtain ⟨w58, hF58, b58, rfl, hb58⟩ := hK2.2 25 (.inr (some (.inl 43))) rfl
      refine J_get jf_X7_80 dX7_next_58 hO2 hF58 ?_
      refine J_iload_n dX7_next_61 rfl ?_
      refine J_aload_n dX7_next_62 rfl ?_
      refine J_get jf_X7_73 dX7_next_63 hO2 hF2 ?_
      refine J_iload dX7_next_66 rfl ?_
      refine Jz_imulB 5 jEq.rf jEq.rf dX7_next_68 (by omega) (by omega) (by omega) (by omega) (fun y68 he68 hf68 => ?_)
      refine Jz_iadd jEq.rf jEq.rf dX7_next_69 (by omega) (by omega) (fun y69 he69 => ?_)
      obtain ⟨n70, f70, hA70, hN70, hM70, hv70⟩ := WT_arrI (r := (0, 1)) hW id rfl hb58
      obtain rfl := hM70 36 rfl
      clear hN70 hM70
      refine Jz_zaldr (r := (0, 1)) he69 dX7_next_70 hA70 rfl hv70 (by omega) (by omega) (fun y70 hl70 hh70 => ?_)
      dsimp only at hl70 hh70
      refine Jz_if_ne (tgt := 86) jEq.rf dX7_next_71 (by decide) (fun c71 => ?_) (fun c71 => ?_)
      · refine Jz_iconst (-1) dX7_next_86 (by decide) (fun y86 he86 => ?_)
        exact J_ret (r := some (.int _)) dX7_next_87 ⟨rfl, _, rfl, rfl⟩ (⟨⟨_, rfl, (by (try simp only [he86.eq, true_and, and_true]) <;> omega), (by (try simp only [he86.eq, true_and, and_true]) <;> omega)⟩, rfl⟩)
      · refine J_iload_n dX7_next_74 rfl ?_
        refine J_aload_n dX7_next_75 rfl ?_
        refine J_get jf_X7_73 dX7_next_76 hO2 hF2 ?_
        refine J_iload dX7_next_79 rfl ?_
        refine Jz_imulB 5 jEq.rf jEq.rf dX7_next_81 (by omega) (by omega) (by omega) (by omega) (fun y81 he81 hf81 => ?_)
        refine Jz_iadd jEq.rf jEq.rf dX7_next_82 (by omega) (by omega) (fun y82 he82 => ?_)
        refine J_goto (tgt := 87) dX7_next_83 (by decide) ?_
        exact J_ret (r := some (.int _)) dX7_next_87 ⟨rfl, _, rfl, rfl⟩ (⟨⟨_, rfl, (by (try simp only [he82.eq, true_and, and_true]) <;> omega), (by (try simp only [he82.eq, true_and, and_true]) <;> omega)⟩, rfl⟩)
set_option maxRecDepth 100000 in
set_option maxHeartbeats 8000000 in
theorem w_X7_count {tS : jTS} (d : Nat) (V0 : jH) (a0 : Nat) (x1 : Int32) (hd : 1 ≤ d) (hW : WT V0) (ha0 : jis V0 (.inr 5) a0) : jTot tS mX7_count d [.ref a0, .int x1] V0 0 0 (fun r V => (fun r _ => ∃ y : Int32, r = some (.int y) ∧ ((-2147483648) ≤ y.toInt) ∧ (y.toInt ≤ 2147483647)) r V ∧ V = V0) := by
  refine jTot.of_J [some (.ref a0), some (.int x1)] moX7_count (Nat.le_of_ble_eq_true rfl) rfl ?_
  have hrx1 := j_rng x1
  have he : jeff [] V0 V0 := jeff.refl _ _
  refine J_iload_n dX7_count_0 rfl ?_
  refine Jz_if_ne (tgt := 11) jEq.rf dX7_count_1 (by decide) (fun c1 => ?_) (fun c1 => ?_)
  · refine J_iload_n dX7_count_11 rfl ?_
    refine Jz_iconst 1 dX7_count_12 (by decide) (fun y12 he12 => ?_)
    refine Jz_icmp_ne (tgt := 23) jEq.rf he12 dX7_count_13 (by decide) (fun c13 => ?_) (fun c13 => ?_)
    · refine J_iload_n dX7_count_23 rfl ?_
      refine Jz_iconst 2 dX7_count_24 (by decide) (fun y24 he24 => ?_)
      refine Jz_icmp_ne (tgt := 35) jEq.rf he24 dX7_count_25 (by decide) (fun c25 => ?_) (fun c25 => ?_)
      · refine J_iload_n dX7_count_35 rfl ?_
        refine Jz_iconst 3 dX7_count_36 (by decide) (fun y36 he36 => ?_)
        refine Jz_icmp_ne (tgt := 47) jEq.rf he36 dX7_count_37 (by decide) (fun c37 => ?_) (fun c37 => ?_)
        · refine Jz_bipush (-2) dX7_count_47 (by decide) (fun y47 he47 => ?_)
          exact J_ret (r := some (.int _)) dX7_count_49 ⟨rfl, _, rfl, rfl⟩ (⟨⟨_, rfl, (j_rng _).1, (j_rng _).2⟩, rfl⟩)
        · refine J_aload_n dX7_count_40 rfl ?_
          obtain ⟨fs41, hO41, hK41⟩ := WT_obj hW id ha0
          obtain ⟨w41, hF41, y41, rfl, hl41, hh41⟩ := hK41.2 24 (.inl (2, 6)) rfl
          dsimp only at hl41 hh41
          refine J_get jf_X7_77 dX7_count_41 hO41 hF41 ?_
          refine J_goto (tgt := 49) dX7_count_44 (by decide) ?_
          exact J_ret (r := some (.int _)) dX7_count_49 ⟨rfl, _, rfl, rfl⟩ (⟨⟨_, rfl, (j_rng _).1, (j_rng _).2⟩, rfl⟩)
      · refine J_aload_n dX7_count_28 rfl ?_
        obtain ⟨fs29, hO29, hK29⟩ := WT_obj hW id ha0
        obtain ⟨w29, hF29, y29, rfl, hl29, hh29⟩ := hK29.2 23 (.inl (2, 6)) rfl
        dsimp only at hl29 hh29
        refine J_get jf_X7_73 dX7_count_29 hO29 hF29 ?_
        refine J_goto (tgt := 49) dX7_count_32 (by decide) ?_
        exact J_ret (r := some (.int _)) dX7_count_49 ⟨rfl, _, rfl, rfl⟩ (⟨⟨_, rfl, (j_rng _).1, (j_rng _).2⟩, rfl⟩)
    · refine J_aload_n dX7_count_16 rfl ?_
      refine Jw_callV0 (q9 := (RX7, TX7, 34)) moX7_open jw_ml_X7_224 jw_im_X7_open jw_se_X7_open ha0 rfl rfl dX7_count_17 (w_X7_open (d - 1) _ a0 (by omega) hW  ha0) (by omega) (Nat.zero_le _) (Nat.zero_le _) (Nat.le_of_ble_eq_true rfl) (fun r17 V17 h17 => ?_)
      obtain ⟨⟨y17, rfl, hl17, hh17⟩, hE17⟩ := h17
      have hE17 := hE17.symm
      subst hE17
      clear hl17 hh17
      refine J_goto (tgt := 49) dX7_count_20 (by decide) ?_
      exact J_ret (r := some (.int _)) dX7_count_49 ⟨rfl, _, rfl, rfl⟩ (⟨⟨_, rfl, (j_rng _).1, (j_rng _).2⟩, rfl⟩)
  · refine J_aload_n dX7_count_4 rfl ?_
    obtain ⟨fs5, hO5, hK5⟩ := WT_obj hW id ha0
    obtain ⟨w5, hF5, y5, rfl, hl5, hh5⟩ := hK5.2 0 (.inl (0, 16)) rfl
    dsimp only at hl5 hh5
    refine J_get jf_X7_102 dX7_count_5 hO5 hF5 ?_
    refine J_goto (tgt := 49) dX7_count_8 (by decide) ?_
    exact J_ret (r := some (.int _)) dX7_count_49 ⟨rfl, _, rfl, rfl⟩ (⟨⟨_, rfl, (j_rng _).1, (j_rng _).2⟩, rfl⟩)
