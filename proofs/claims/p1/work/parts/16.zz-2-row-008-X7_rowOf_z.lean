set_option maxRecDepth 100000 in
set_option maxHeartbeats 8000000 in
theorem w_X7_rowOf_z {tS : jTS} (d : Nat) (V0 : jH) (a0 : Nat) (x1 : Int32) (x2 : Int32) (x3 : Int32) (q22 : Int32) (rw : Nat) (RW : Nat → Int32) (hd : 1 ≤ d) (hW : WT V0) (ha0 : jis V0 (.inr 5) a0) (hf_q22 : jfI V0 a0 5 22 q22) (hr_rw : jfR V0 a0 5 4 rw) (ha_RW : V0 rw = some (.inl (17, 120, .inl RW))) (hp0 : 0 ≤ x1.toInt) (hp1 : x1.toInt ≤ 3) (hp2 : 0 ≤ x2.toInt) (hp3 : x2.toInt ≤ 7) (hp4 : 0 ≤ x3.toInt) : jTot tS mX7_rowOf d [.ref a0, .int x1, .int x2, .int x3] V0 0 0 (fun r V => (jPost [.inr 5, .inl 17] V0 rV) r V ∧ (∃ R2 : Nat → Int32, V rw = some (.inl (17, 120, .inl R2)) ∧ ∀ i : Nat, i < x2.toInt.toNat → (R2 i).toInt = jdg9 (jdir x1.toInt).toNat x2.toInt.toNat x3.toInt.toNat i) ∧ jkc 5 [0, 23, 24, 26, 27, 28] V0 V ∧ (∃ v5 : Int32, jfI V a0 5 5 v5 ∧ (v5.toInt = x2.toInt)) ∧ (∃ q2 : Int32, jfI V a0 5 22 q2 ∧ (q2.toInt = q22.toInt))) := by
  refine jTot.of_J [some (.ref a0), some (.int x1), some (.int x2), some (.int x3), none, none] moX7_rowOf (Nat.le_of_ble_eq_true rfl) rfl ?_
  have hrx1 := j_rng x1
  have hrx2 := j_rng x2
  have hrx3 := j_rng x3
  have he : jeff [.inr 5, .inl 17] V0 V0 := jeff.refl _ _
  have hkp : jkc 5 [0, 23, 24, 26, 27, 28] V0 V0 := jkc.rf
  obtain ⟨fs_a0, hO_a0, hK_a0⟩ := WT_obj hW id ha0
  have hF_q22 := hf_q22.get hO_a0
  have hrq22 : (-2147483648) ≤ q22.toInt ∧ q22.toInt ≤ 2147483647 := jok_rngI hK_a0 rfl hF_q22
  have hF_rw := hr_rw.get hO_a0
  obtain ⟨w_rw, hFq_rw, b_rw, hbq_rw, hb_rw⟩ := hK_a0.2 4 (.inr (some (.inl 17))) rfl
  cases hF_rw.symm.trans (hFq_rw.trans (congrArg some hbq_rw))
  obtain ⟨hN_RW, hv_RW⟩ := WT_rngI (r := ((-2147483648), 2147483647)) hW id rfl ha_RW
  clear hN_RW
  have hjb : 3 ≤ jdir x1.toInt ∧ jdir x1.toInt ≤ 6 := by have q := jdir_cases x1.toInt; omega
  refine J_aload_n dX7_rowOf_0 rfl ?_
  refine J_iload_n dX7_rowOf_1 rfl ?_
  refine Jz_putI hO_a0 hW id rfl jf_X7_109 jt_X7_5 jEq.rf dX7_rowOf_2 (by omega) (by omega) (fun _ _ => ⟨rfl, rfl⟩) (fun V2 fs2 hW hx2 hO2 hS2 hT2 hB2 => ?_)
  have hK2 : jokO _ (jFs 5) fs2 := hW _ _ id hO2
  have hF2_22 := (hT2 22 (by decide)).trans hF_q22
  have hF2_4 := (hT2 4 (by decide)).trans hF_rw
  have he := he.trans (hx2.sub (jsub_of rfl))
  have hkp := hkp.trans (jkc.put hO_a0 hO2 hT2 hB2 (by decide))
  have ha0 := ha0.mono hx2.1
  have hb_rw := hb_rw.mono hx2.1
  have ha_RW := hx2.2 _ _ ha_RW (jnot_of rfl)
  refine J_iload_n dX7_rowOf_5 rfl ?_
  refine J_istore dX7_rowOf_6 rfl (by decide) ?_
  refine J_iload_n dX7_rowOf_8 rfl ?_
  refine Jz_iconst 1 dX7_rowOf_9 (by decide) (fun y9 he9 => ?_)
  refine Jz_isub jEq.rf he9 dX7_rowOf_10 (by omega) (by omega) (fun y10 he10 => ?_)
  refine J_istore dX7_rowOf_11 rfl (by decide) ?_
  have L13 : ∀ (N : Nat) (V : jH) (i4n13 : Int32) (i5n13 : Int32) (F17n13 : Nat → Int32), WT V → jeff [.inr 5, .inl 17] V0 V → (jis V (.inr 5) a0) → (jis V (.inl 17) rw) → (jkc 5 [0, 23, 24, 26, 27, 28] V0 V) → (V a0 = some (.inr (5, fs2))) → (jokO V (jFs 5) fs2) → (V rw = some (.inl (17, 120, .inl F17n13))) → (-1 ≤ i5n13.toInt ∧ i5n13.toInt ≤ x2.toInt - 1) → (i4n13.toInt = ((x3.toInt.toNat / (jdir x1.toInt).toNat ^ (x2.toInt - 1 - i5n13.toInt).toNat : Nat) : Int)) → (∀ i : Nat, i5n13.toInt < (i : Int) → (i : Int) < x2.toInt → (F17n13 i).toInt = jdg9 (jdir x1.toInt).toNat x2.toInt.toNat x3.toInt.toNat i) → (i5n13.toInt + 2).toNat < N → J tS mX7_rowOf d 13 [some (.ref a0), some (.int x1), some (.int x2), some (.int x3), some (.int i4n13), some (.int i5n13)] [] V 0 0 (fun r V => (jPost [.inr 5, .inl 17] V0 rV) r V ∧ (∃ R2 : Nat → Int32, V rw = some (.inl (17, 120, .inl R2)) ∧ ∀ i : Nat, i < x2.toInt.toNat → (R2 i).toInt = jdg9 (jdir x1.toInt).toNat x2.toInt.toNat x3.toInt.toNat i) ∧ jkc 5 [0, 23, 24, 26, 27, 28] V0 V ∧ (∃ v5 : Int32, jfI V a0 5 5 v5 ∧ (v5.toInt = x2.toInt)) ∧ (∃ q2 : Int32, jfI V a0 5 22 q2 ∧ (q2.toInt = q22.toInt))) := by
    intro N
    induction N with
    | zero => intro V i4n13 i5n13 F17n13 hW he ha0 hb_rw hkp hO2 hK2 hAF17n13 hi5 hlf hrw hm; exact absurd hm (Nat.not_lt_zero _)
    | succ N ih =>
      intro V i4n13 i5n13 F17n13 hW he ha0 hb_rw hkp hO2 hK2 hAF17n13 hi5 hlf hrw hm
      have ih13 := ih
      have hri5 := j_rng i5n13
      obtain ⟨hNF17n13, hvF17n13⟩ := WT_rngI (r := ((-2147483648), 2147483647)) hW id rfl hAF17n13
      clear hNF17n13
      refine J_iload dX7_rowOf_13 rfl ?_
      refine Jz_if_lt (tgt := 47) jEq.rf dX7_rowOf_15 (by decide) (fun c15 => ?_) (fun c15 => ?_)
      · exact J_ret (r := none) dX7_rowOf_47 ⟨rfl, rfl⟩ (⟨⟨hW, he, rfl⟩, ⟨F17n13, hAF17n13, fun i hi => hrw i (by omega) (by omega)⟩, hkp, ⟨_, ⟨_, hO2, hS2⟩, (by omega)⟩, ⟨_, ⟨_, hO2, hF2_22⟩, (by omega)⟩⟩)
      · have hl0 : 0 ≤ i4n13.toInt := by rw [hlf]; exact Int.natCast_nonneg _
        refine J_aload_n dX7_rowOf_18 rfl ?_
        refine J_get jf_X7_19 dX7_rowOf_19 hO2 hF2_4 ?_
        refine J_iload dX7_rowOf_22 rfl ?_
        refine J_iload dX7_rowOf_24 rfl ?_
        refine J_iload_n dX7_rowOf_26 rfl ?_
        refine J_callS1 moX7_directions jw_ml_X7_133 jw_st_X7_directions dX7_rowOf_27 (w_X7_directions (d - 1) _ x1 (by omega)   ) (by omega) (Nat.zero_le _) (Nat.zero_le _) (Nat.le_of_ble_eq_true rfl) (fun r27 V27 h27 => ?_)
        obtain ⟨⟨y27, rfl, hl27, hh27, hP27_0⟩, hE27⟩ := h27
        have hE27 := hE27.symm
        subst hE27
        have hz27 : jEq y27.toInt (jdir (x1.toInt)) := hP27_0
        simp only [hP27_0] at hl27 hh27
        clear hP27_0
        have hmd := Int.emod_lt_of_pos i4n13.toInt (show 0 < jdir x1.toInt by omega)
        have hmd0 := Int.emod_nonneg i4n13.toInt (show jdir x1.toInt ≠ 0 by omega)
        refine Jz_iremC jEq.rf hz27 dX7_rowOf_30 (by omega) (by omega) (fun y30 he30 => ?_)
        refine Jz_iast (r := ((-2147483648), 2147483647)) jEq.rf he30 hW id dX7_rowOf_31 hAF17n13 rfl rfl (by omega) (by omega) (by omega) (by omega) (fun V31 G31 hW hx31 hA31 hp31 ho31 => ?_)
        obtain ⟨hN31, hv31⟩ := WT_rngI (r := ((-2147483648), 2147483647)) hW id rfl hA31
        clear hN31
        have he := he.trans (hx31.sub (jsub_of rfl))
        have hkp := hkp.trans (jkc.of hx31 (jnot_of rfl))
        have ha0 := ha0.mono hx31.1
        have hb_rw := hb_rw.mono hx31.1
        have hO2 := hx31.2 _ _ hO2 (jnot_of rfl)
        have hK2 := hK2.mono hx31.1
        refine J_iload dX7_rowOf_32 rfl ?_
        refine J_iload_n dX7_rowOf_34 rfl ?_
        refine J_callS1 moX7_directions jw_ml_X7_133 jw_st_X7_directions dX7_rowOf_35 (w_X7_directions (d - 1) _ x1 (by omega)   ) (by omega) (Nat.zero_le _) (Nat.zero_le _) (Nat.le_of_ble_eq_true rfl) (fun r35 V35 h35 => ?_)
        obtain ⟨⟨y35, rfl, hl35, hh35, hP35_0⟩, hE35⟩ := h35
        have hE35 := hE35.symm
        subst hE35
        have hz35 : jEq y35.toInt (jdir (x1.toInt)) := hP35_0
        simp only [hP35_0] at hl35 hh35
        clear hP35_0
        refine Jz_idivC jEq.rf hz35 dX7_rowOf_38 (by omega) (by omega) (fun y38 he38 => ?_)
        refine J_istore dX7_rowOf_39 rfl (by decide) ?_
        refine Jz_iinc (-1) dX7_rowOf_41 rfl rfl (by decide) jEq.rf (by decide) (by omega) (by omega) (fun y41 he41 => ?_)
        refine J_goto (tgt := 13) dX7_rowOf_44 (by decide) ?_
        refine J.mask [true, true, true, true, true, true] ?_
        exact ih13 _ y38 y41 G31 hW he ha0 hb_rw hkp hO2 hK2 hA31 (by (try simp only [he38.eq, he41.eq, true_and, and_true]) <;> omega) (by rw [he38.eq, he41.eq, hlf, show (x2.toInt - 1 - (i5n13.toInt + (-1))).toNat = (x2.toInt - 1 - i5n13.toInt).toNat + 1 by omega]; exact jdv_step (by omega)) (fun i h1 h2 => by rw [he41.eq] at h1; by_cases c : (i : Int) = i5n13.toInt; (have e : i = i5n13.toInt.toNat := by omega); subst e; rw [hp31, he30.eq, hlf]; exact jdv_dig (by omega) (by omega); rw [ho31 i (by omega)]; exact hrw i (by omega) h2) (by (try simp only [he38.eq, he41.eq, true_and, and_true]) <;> omega)
  refine J.mask [true, true, true, true, true, true] ?_
  exact L13 _ _ x3 y10 RW hW he ha0 hb_rw hkp hO2 hK2 ha_RW (by (try simp only [he10.eq, true_and, and_true]) <;> omega) (by rw [he10.eq, show (x2.toInt - 1 - (x2.toInt - 1)).toNat = 0 by omega, Nat.pow_zero, Nat.div_one]; exact (Int.toNat_of_nonneg (by omega)).symm) (fun i h1 h2 => by rw [he10.eq] at h1; omega) (Nat.lt_succ_self _)
