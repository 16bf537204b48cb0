set_option maxRecDepth 100000 in
set_option maxHeartbeats 8000000 in
theorem w_X4_init_t {tS : jTS} (d : Nat) (V0 : jH) (a0 : Nat) (x1 : Int32) (wc : Nat) (fo : Nat) (rn : Nat) (WC : Nat → Int32) (FO : Nat → Int32) (RN : Nat → Int32) (Q : Option Value → jH → Prop) (hd : 1 ≤ d) (hW : WT V0) (ha0 : jis V0 (.inr 2) a0) (hr_wc : jfR V0 a0 2 4 wc) (hr_fo : jfR V0 a0 2 8 fo) (hr_rn : jfR V0 a0 2 9 rn) (ha_WC : V0 wc = some (.inl (8, 21, .inl WC))) (ha_FO : V0 fo = some (.inl (13, 8, .inl FO))) (ha_RN : V0 rn = some (.inl (9, 7, .inl RN))) (hQ : ∀ (r : Option Value) (V : jH), (fun r V => (jPost [.inl 8, .inl 13, .inl 9] V0 rV) r V ∧ (∃ WC2 FO2 RN2 : Nat → Int32, V wc = some (.inl (8, 21, .inl WC2)) ∧ V fo = some (.inl (13, 8, .inl FO2)) ∧ V rn = some (.inl (9, 7, .inl RN2)) ∧ (WC2 0).toInt = 1 ∧ (∀ k : Nat, 1 ≤ k → k ≤ 20 → (WC2 k).toInt = 0) ∧ (∀ k : Nat, k < 8 → (FO2 k).toInt = -1) ∧ ∀ k : Nat, k < 7 → (RN2 k).toInt = -1) ∧ jfp [wc, fo, rn] V0 V) r V → Q r V) : J tS mX4_init d 142 [some (.ref a0), some (.int x1), none] [] V0 0 0 Q := by
  have hrx1 := j_rng x1
  have he : jeff [.inl 8, .inl 13, .inl 9] V0 V0 := jeff.refl _ _
  have hfp : jfp [wc, fo, rn] V0 V0 := jfp.rf
  obtain ⟨fs_a0, hO_a0, hK_a0⟩ := WT_obj hW id ha0
  have hF_wc := hr_wc.get hO_a0
  obtain ⟨w_wc, hFq_wc, b_wc, hbq_wc, hb_wc⟩ := hK_a0.2 4 (.inr (some (.inl 8))) rfl
  cases hF_wc.symm.trans (hFq_wc.trans (congrArg some hbq_wc))
  have hF_fo := hr_fo.get hO_a0
  obtain ⟨w_fo, hFq_fo, b_fo, hbq_fo, hb_fo⟩ := hK_a0.2 8 (.inr (some (.inl 13))) rfl
  cases hF_fo.symm.trans (hFq_fo.trans (congrArg some hbq_fo))
  have hF_rn := hr_rn.get hO_a0
  obtain ⟨w_rn, hFq_rn, b_rn, hbq_rn, hb_rn⟩ := hK_a0.2 9 (.inr (some (.inl 9))) rfl
  cases hF_rn.symm.trans (hFq_rn.trans (congrArg some hbq_rn))
  obtain ⟨hN_WC, hv_WC⟩ := WT_rngI (r := ((-2147483648), 2147483647)) hW id rfl ha_WC
  clear hN_WC
  obtain ⟨hN_FO, hv_FO⟩ := WT_rngI (r := ((-2147483648), 2147483647)) hW id rfl ha_FO
  clear hN_FO
  obtain ⟨hN_RN, hv_RN⟩ := WT_rngI (r := ((-2147483648), 2147483647)) hW id rfl ha_RN
  clear hN_RN
  refine Jz_iconst 0 dX4_init_142 (by decide) (fun y142 he142 => ?_)
  refine J_istore_n dX4_init_143 rfl (by decide) ?_
  have L144 : ∀ (N : Nat) (V : jH) (i2n144 : Int32) (F8n144 : Nat → Int32), WT V → jeff [.inl 8, .inl 13, .inl 9] V0 V → (jis V (.inr 2) a0) → (jis V (.inl 8) wc) → (jis V (.inl 13) fo) → (jis V (.inl 9) rn) → (jfp [wc, fo, rn] V0 V) → (V a0 = some (.inr (2, fs_a0))) → (jokO V (jFs 2) fs_a0) → (V wc = some (.inl (8, 21, .inl F8n144))) → (V fo = some (.inl (13, 8, .inl FO))) → (V rn = some (.inl (9, 7, .inl RN))) → (0 ≤ i2n144.toInt ∧ i2n144.toInt ≤ 21) → (∀ k : Nat, (k : Int) < i2n144.toInt → (F8n144 k).toInt = (if k = 0 then 1 else 0)) → (300 - i2n144.toInt).toNat < N → J tS mX4_init d 144 [some (.ref a0), none, some (.int i2n144)] [] V 0 0 Q := by
    intro N
    induction N with
    | zero => intro V i2n144 F8n144 hW he ha0 hb_wc hb_fo hb_rn hfp hO_a0 hK_a0 hAF8n144 ha_FO ha_RN hi2 hw hm; exact absurd hm (Nat.not_lt_zero _)
    | succ N ih =>
      intro V i2n144 F8n144 hW he ha0 hb_wc hb_fo hb_rn hfp hO_a0 hK_a0 hAF8n144 ha_FO ha_RN hi2 hw hm
      have ih144 := ih
      have hri2 := j_rng i2n144
      obtain ⟨hNF8n144, hvF8n144⟩ := WT_rngI (r := ((-2147483648), 2147483647)) hW id rfl hAF8n144
      clear hNF8n144
      refine J_iload_n dX4_init_144 rfl ?_
      refine J_aload_n dX4_init_145 rfl ?_
      refine J_get jf_X4_9 dX4_init_146 hO_a0 hF_wc ?_
      refine J_alen dX4_init_149 hAF8n144 rfl rfl ?_
      have he149 : jEq (Int32.ofNat 21).toInt 21 := nI_toInt (by decide)
      generalize Int32.ofNat 21 = y149 at he149 ⊢
      refine Jz_icmp_ge (tgt := 174) jEq.rf he149 dX4_init_150 (by decide) (fun c150 => ?_) (fun c150 => ?_)
      · refine Jz_iconst 0 dX4_init_174 (by decide) (fun y174 he174 => ?_)
        refine J_istore_n dX4_init_175 rfl (by decide) ?_
        have L176 : ∀ (N : Nat) (V : jH) (i2n176 : Int32) (F13n176 : Nat → Int32), WT V → jeff [.inl 8, .inl 13, .inl 9] V0 V → (jis V (.inr 2) a0) → (jis V (.inl 8) wc) → (jis V (.inl 13) fo) → (jis V (.inl 9) rn) → (jfp [wc, fo, rn] V0 V) → (V a0 = some (.inr (2, fs_a0))) → (jokO V (jFs 2) fs_a0) → (V fo = some (.inl (13, 8, .inl F13n176))) → (V wc = some (.inl (8, 21, .inl F8n144))) → (V rn = some (.inl (9, 7, .inl RN))) → (0 ≤ i2n176.toInt ∧ i2n176.toInt ≤ 8) → (∀ k : Nat, (k : Int) < i2n176.toInt → (F13n176 k).toInt = -1) → (300 - i2n176.toInt).toNat < N → J tS mX4_init d 176 [some (.ref a0), none, some (.int i2n176)] [] V 0 0 Q := by
          intro N
          induction N with
          | zero => intro V i2n176 F13n176 hW he ha0 hb_wc hb_fo hb_rn hfp hO_a0 hK_a0 hAF13n176 hAF8n144 ha_RN hj2 hv hm; exact absurd hm (Nat.not_lt_zero _)
          | succ N ih =>
            intro V i2n176 F13n176 hW he ha0 hb_wc hb_fo hb_rn hfp hO_a0 hK_a0 hAF13n176 hAF8n144 ha_RN hj2 hv hm
            have ih176 := ih
            have hri2 := j_rng i2n176
            obtain ⟨hNF13n176, hvF13n176⟩ := WT_rngI (r := ((-2147483648), 2147483647)) hW id rfl hAF13n176
            clear hNF13n176
            refine J_iload_n dX4_init_176 rfl ?_
            refine J_aload_n dX4_init_177 rfl ?_
            refine J_get jf_X4_25 dX4_init_178 hO_a0 hF_fo ?_
            refine J_alen dX4_init_181 hAF13n176 rfl rfl ?_
            have he181 : jEq (Int32.ofNat 8).toInt 8 := nI_toInt (by decide)
            generalize Int32.ofNat 8 = y181 at he181 ⊢
            refine Jz_icmp_ge (tgt := 198) jEq.rf he181 dX4_init_182 (by decide) (fun c182 => ?_) (fun c182 => ?_)
            · refine Jz_iconst 0 dX4_init_198 (by decide) (fun y198 he198 => ?_)
              refine J_istore_n dX4_init_199 rfl (by decide) ?_
              have L200 : ∀ (N : Nat) (V : jH) (i2n200 : Int32) (F9n200 : Nat → Int32), WT V → jeff [.inl 8, .inl 13, .inl 9] V0 V → (jis V (.inr 2) a0) → (jis V (.inl 8) wc) → (jis V (.inl 13) fo) → (jis V (.inl 9) rn) → (jfp [wc, fo, rn] V0 V) → (V a0 = some (.inr (2, fs_a0))) → (jokO V (jFs 2) fs_a0) → (V rn = some (.inl (9, 7, .inl F9n200))) → (V wc = some (.inl (8, 21, .inl F8n144))) → (V fo = some (.inl (13, 8, .inl F13n176))) → (0 ≤ i2n200.toInt ∧ i2n200.toInt ≤ 7) → (∀ k : Nat, (k : Int) < i2n200.toInt → (F9n200 k).toInt = -1) → (300 - i2n200.toInt).toNat < N → J tS mX4_init d 200 [some (.ref a0), none, some (.int i2n200)] [] V 0 0 Q := by
                intro N
                induction N with
                | zero => intro V i2n200 F9n200 hW he ha0 hb_wc hb_fo hb_rn hfp hO_a0 hK_a0 hAF9n200 hAF8n144 hAF13n176 hk2 hu hm; exact absurd hm (Nat.not_lt_zero _)
                | succ N ih =>
                  intro V i2n200 F9n200 hW he ha0 hb_wc hb_fo hb_rn hfp hO_a0 hK_a0 hAF9n200 hAF8n144 hAF13n176 hk2 hu hm
                  have ih200 := ih
                  have hri2 := j_rng i2n200
                  obtain ⟨hNF9n200, hvF9n200⟩ := WT_rngI (r := ((-2147483648), 2147483647)) hW id rfl hAF9n200
                  clear hNF9n200
                  refine J_iload_n dX4_init_200 rfl ?_
                  refine J_aload_n dX4_init_201 rfl ?_
                  refine J_get jf_X4_28 dX4_init_202 hO_a0 hF_rn ?_
                  refine J_alen dX4_init_205 hAF9n200 rfl rfl ?_
                  have he205 : jEq (Int32.ofNat 7).toInt 7 := nI_toInt (by decide)
                  generalize Int32.ofNat 7 = y205 at he205 ⊢
                  refine Jz_icmp_ge (tgt := 222) jEq.rf he205 dX4_init_206 (by decide) (fun c206 => ?_) (fun c206 => ?_)
                  · exact J_ret (r := none) dX4_init_222 ⟨rfl, rfl⟩ (hQ _ _ (⟨⟨hW, he, rfl⟩, ⟨F8n144, F13n176, F9n200, hAF8n144, hAF13n176, hAF9n200, (by have q := hw 0 (by omega); rw [if_pos rfl] at q; exact q), (fun k k1 k2 => by have q := hw k (by omega); rw [if_neg (by omega)] at q; exact q), (fun k hk => hv k (by omega)), (fun k hk => hu k (by omega))⟩, hfp⟩))
                  · refine J_aload_n dX4_init_209 rfl ?_
                    refine J_get jf_X4_28 dX4_init_210 hO_a0 hF_rn ?_
                    refine J_iload_n dX4_init_213 rfl ?_
                    refine Jz_iconst (-1) dX4_init_214 (by decide) (fun y214 he214 => ?_)
                    refine Jz_iastB (r := ((-2147483648), 2147483647)) jEq.rf he214 hW id dX4_init_215 hAF9n200 rfl rfl (by omega) (by omega) (by omega) (by omega) (fun V215 G215 hW hx215 hA215 hp215 ho215 hB215 => ?_)
                    obtain ⟨hN215, hv215⟩ := WT_rngI (r := ((-2147483648), 2147483647)) hW id rfl hA215
                    clear hN215
                    have he := he.trans (hx215.sub (jsub_of rfl))
                    have hfp := hfp.trans (jfp.one hB215 (List.mem_cons_of_mem _ (List.mem_cons_of_mem _ List.mem_cons_self)))
                    have ha0 := ha0.mono hx215.1
                    have hb_wc := hb_wc.mono hx215.1
                    have hb_fo := hb_fo.mono hx215.1
                    have hb_rn := hb_rn.mono hx215.1
                    have hO_a0 := hx215.2 _ _ hO_a0 (jnot_of rfl)
                    have hK_a0 := hK_a0.mono hx215.1
                    have hAF8n144 := hx215.2 _ _ hAF8n144 (jnot_of rfl)
                    have hAF13n176 := hx215.2 _ _ hAF13n176 (jnot_of rfl)
                    refine Jz_iinc 1 dX4_init_216 rfl rfl (by decide) jEq.rf (by decide) (by omega) (by omega) (fun y216 he216 => ?_)
                    refine J_goto (tgt := 200) dX4_init_219 (by decide) ?_
                    refine J.mask [true, false, true] ?_
                    exact ih200 _ y216 G215 hW he ha0 hb_wc hb_fo hb_rn hfp hO_a0 hK_a0 hA215 hAF8n144 hAF13n176 (by (try simp only [he216.eq, true_and, and_true]) <;> omega) (fun k hk => by rw [he216.eq] at hk; by_cases h9 : (k : Int) = i2n200.toInt; (rw [show k = i2n200.toInt.toNat by omega, hp215, he214.eq]); (rw [ho215 k (by omega)]; exact hu k (by omega))) (by (try simp only [he216.eq, true_and, and_true]) <;> omega)
              refine J.mask [true, false, true] ?_
              exact L200 _ _ y198 RN hW he ha0 hb_wc hb_fo hb_rn hfp hO_a0 hK_a0 ha_RN hAF8n144 hAF13n176 (by (try simp only [he198.eq, true_and, and_true]) <;> omega) (fun k hk => absurd hk (by rw [he198.eq]; omega)) (Nat.lt_succ_self _)
            · refine J_aload_n dX4_init_185 rfl ?_
              refine J_get jf_X4_25 dX4_init_186 hO_a0 hF_fo ?_
              refine J_iload_n dX4_init_189 rfl ?_
              refine Jz_iconst (-1) dX4_init_190 (by decide) (fun y190 he190 => ?_)
              refine Jz_iastB (r := ((-2147483648), 2147483647)) jEq.rf he190 hW id dX4_init_191 hAF13n176 rfl rfl (by omega) (by omega) (by omega) (by omega) (fun V191 G191 hW hx191 hA191 hp191 ho191 hB191 => ?_)
              obtain ⟨hN191, hv191⟩ := WT_rngI (r := ((-2147483648), 2147483647)) hW id rfl hA191
              clear hN191
              have he := he.trans (hx191.sub (jsub_of rfl))
              have hfp := hfp.trans (jfp.one hB191 (List.mem_cons_of_mem _ List.mem_cons_self))
              have ha0 := ha0.mono hx191.1
              have hb_wc := hb_wc.mono hx191.1
              have hb_fo := hb_fo.mono hx191.1
              have hb_rn := hb_rn.mono hx191.1
              have hO_a0 := hx191.2 _ _ hO_a0 (jnot_of rfl)
              have hK_a0 := hK_a0.mono hx191.1
              have hAF8n144 := hx191.2 _ _ hAF8n144 (jnot_of rfl)
              have ha_RN := hx191.2 _ _ ha_RN (jnot_of rfl)
              refine Jz_iinc 1 dX4_init_192 rfl rfl (by decide) jEq.rf (by decide) (by omega) (by omega) (fun y192 he192 => ?_)
              refine J_goto (tgt := 176) dX4_init_195 (by decide) ?_
              refine J.mask [true, false, true] ?_
              exact ih176 _ y192 G191 hW he ha0 hb_wc hb_fo hb_rn hfp hO_a0 hK_a0 hA191 hAF8n144 ha_RN (by (try simp only [he192.eq, true_and, and_true]) <;> omega) (fun k hk => by rw [he192.eq] at hk; by_cases h9 : (k : Int) = i2n176.toInt; (rw [show k = i2n176.toInt.toNat by omega, hp191, he190.eq]); (rw [ho191 k (by omega)]; exact hv k (by omega))) (by (try simp only [he192.eq, true_and, and_true]) <;> omega)
        refine J.mask [true, false, true] ?_
        exact L176 _ _ y174 FO hW he ha0 hb_wc hb_fo hb_rn hfp hO_a0 hK_a0 ha_FO hAF8n144 ha_RN (by (try simp only [he174.eq, true_and, and_true]) <;> omega) (fun k hk => absurd hk (by rw [he174.eq]; omega)) (Nat.lt_succ_self _)
      · refine J_aload_n dX4_init_153 rfl ?_
        refine J_get jf_X4_9 dX4_init_154 hO_a0 hF_wc ?_
        refine J_iload_n dX4_init_157 rfl ?_
        refine J_iload_n dX4_init_158 rfl ?_
        refine Jz_if_ne (tgt := 166) jEq.rf dX4_init_159 (by decide) (fun c159 => ?_) (fun c159 => ?_)
        · refine Jz_iconst 0 dX4_init_166 (by decide) (fun y166 he166 => ?_)
          refine Jz_iastB (r := ((-2147483648), 2147483647)) jEq.rf he166 hW id dX4_init_167 hAF8n144 rfl rfl (by omega) (by omega) (by omega) (by omega) (fun V167 G167 hW hx167 hA167 hp167 ho167 hB167 => ?_)
          obtain ⟨hN167, hv167⟩ := WT_rngI (r := ((-2147483648), 2147483647)) hW id rfl hA167
          clear hN167
          have he := he.trans (hx167.sub (jsub_of rfl))
          have hfp := hfp.trans (jfp.one hB167 List.mem_cons_self)
          have ha0 := ha0.mono hx167.1
          have hb_wc := hb_wc.mono hx167.1
          have hb_fo := hb_fo.mono hx167.1
          have hb_rn := hb_rn.mono hx167.1
          have hO_a0 := hx167.2 _ _ hO_a0 (jnot_of rfl)
          have hK_a0 := hK_a0.mono hx167.1
          have ha_FO := hx167.2 _ _ ha_FO (jnot_of rfl)
          have ha_RN := hx167.2 _ _ ha_RN (jnot_of rfl)
          refine Jz_iinc 1 dX4_init_168 rfl rfl (by decide) jEq.rf (by decide) (by omega) (by omega) (fun y168 he168 => ?_)
          refine J_goto (tgt := 144) dX4_init_171 (by decide) ?_
          refine J.mask [true, false, true] ?_
          exact ih144 _ y168 G167 hW he ha0 hb_wc hb_fo hb_rn hfp hO_a0 hK_a0 hA167 ha_FO ha_RN (by (try simp only [he168.eq, true_and, and_true]) <;> omega) (fun k hk => by rw [he168.eq] at hk; by_cases h9 : (k : Int) = i2n144.toInt; (rw [show k = i2n144.toInt.toNat by omega, hp167, he166.eq, if_neg (by omega)]); (rw [ho167 k (by omega)]; exact hw k (by omega))) (by (try simp only [he168.eq, true_and, and_true]) <;> omega)
        · refine Jz_iconst 1 dX4_init_162 (by decide) (fun y162 he162 => ?_)
          refine J_goto (tgt := 167) dX4_init_163 (by decide) ?_
          refine Jz_iastB (r := ((-2147483648), 2147483647)) jEq.rf he162 hW id dX4_init_167 hAF8n144 rfl rfl (by omega) (by omega) (by omega) (by omega) (fun V167 G167 hW hx167 hA167 hp167 ho167 hB167 => ?_)
          obtain ⟨hN167, hv167⟩ := WT_rngI (r := ((-2147483648), 2147483647)) hW id rfl hA167
          clear hN167
          have he := he.trans (hx167.sub (jsub_of rfl))
          have hfp := hfp.trans (jfp.one hB167 List.mem_cons_self)
          have ha0 := ha0.mono hx167.1
          have hb_wc := hb_wc.mono hx167.1
          have hb_fo := hb_fo.mono hx167.1
          have hb_rn := hb_rn.mono hx167.1
          have hO_a0 := hx167.2 _ _ hO_a0 (jnot_of rfl)
          have hK_a0 := hK_a0.mono hx167.1
          have ha_FO := hx167.2 _ _ ha_FO (jnot_of rfl)
          have ha_RN := hx167.2 _ _ ha_RN (jnot_of rfl)
          refine Jz_iinc 1 dX4_init_168 rfl rfl (by decide) jEq.rf (by decide) (by omega) (by omega) (fun y168 he168 => ?_)
          refine J_goto (tgt := 144) dX4_init_171 (by decide) ?_
          refine J.mask [true, false, true] ?_
          exact ih144 _ y168 G167 hW he ha0 hb_wc hb_fo hb_rn hfp hO_a0 hK_a0 hA167 ha_FO ha_RN (by (try simp only [he168.eq, true_and, and_true]) <;> omega) (fun k hk => by rw [he168.eq] at hk; by_cases h9 : (k : Int) = i2n144.toInt; (rw [show k = i2n144.toInt.toNat by omega, hp167, he162.eq, if_pos (by omega)]); (rw [ho167 k (by omega)]; exact hw k (by omega))) (by (try simp only [he168.eq, true_and, and_true]) <;> omega)
  refine J.mask [true, false, true] ?_
  exact L144 _ _ y142 WC hW he ha0 hb_wc hb_fo hb_rn hfp hO_a0 hK_a0 ha_WC ha_FO ha_RN (by (try simp only [he142.eq, true_and, and_true]) <;> omega) (fun k hk => absurd hk (by rw [he142.eq]; omega)) (Nat.lt_succ_self _)
